/-! the model: fewest, urges, fits -/
def popN (n : Nat) : Nat → Nat
  | 0 => 0
  | k + 1 => popN n k + n / 2 ^ k % 2
theorem popN_6 (n : Nat) : popN n 6 = pop n := by
  show 0 + n / 2 ^ 0 % 2 + n / 2 ^ 1 % 2 + n / 2 ^ 2 % 2 + n / 2 ^ 3 % 2 + n / 2 ^ 4 % 2 + n / 2 ^ 5 % 2 = _
  unfold pop
  simp
set_option maxHeartbeats 1000000 in
theorem lp_ones {Γ : Gm} {σ : Mm} {n : Nat} (hn : n < 64) : ∀ (m k : Nat), k + m = 6 → Go Γ 1 mX9_ones (aP (nI (pop n)) σ) 4 [some (.int (nI n)), some (.int (nI (popN n k))), some (.int (nI k))] [] σ := by
  intro m
  induction m with
  | zero =>
    intro k hk
    have e : k = 6 := by omega
    subst e
    refine go_iload_n dX9_ones_4 rfl rfl ?_
    refine go_bipush (v := nI 6) dX9_ones_5 rfl ?_
    refine go_icmp_ge (tgt := 24) dX9_ones_7 (by decide) (fun c7 => ?_) (fun c7 => ?_)
    · refine go_iload_n dX9_ones_24 rfl rfl ?_
      refine go_iret rfl dX9_ones_25 ?_
      exact ⟨by rw [popN_6], rfl⟩
    · exact absurd (Int32.le_refl _) c7
  | succ m ih =>
    intro k hk
    refine go_iload_n dX9_ones_4 rfl rfl ?_
    refine go_bipush (v := nI 6) dX9_ones_5 rfl ?_
    refine go_icmp_ge (tgt := 24) dX9_ones_7 (by decide) (fun c7 => ?_) (fun c7 => ?_)
    · exact absurd c7 (nI_ge (by omega) (by omega))
    · refine go_iload_n dX9_ones_10 rfl rfl ?_
      refine go_iload_n dX9_ones_11 rfl rfl ?_
      refine go_iload_n dX9_ones_12 rfl rfl ?_
      refine go_ishr dX9_ones_13 ?_
      refine go_iconst (v := nI 1) dX9_ones_14 rfl ?_
      refine go_iand dX9_ones_15 ?_
      rw [bit_ok n hn k (by omega)]
      refine go_iadd dX9_ones_16 ?_
      rw [nI_add, show popN n k + n / 2 ^ k % 2 = popN n (k + 1) from rfl]
      refine go_istore_n (L' := [_, _, _]) dX9_ones_17 rfl (by decide) rfl rfl ?_
      refine go_iinc (v := nI (k + 1)) (L' := [_, _, _]) dX9_ones_18 rfl (nI_1 _) (by decide) rfl rfl ?_
      refine go_goto (tgt := 4) dX9_ones_21 (by decide) ?_
      exact ih (k + 1) (by omega)
set_option maxHeartbeats 1000000 in
theorem sm_ones {Γ : Gm} {σ : Mm} {n : Nat} (hn : n < 64) : Sp Γ 1 mX9_ones [.int (nI n)] σ (aP (nI (pop n)) σ) := by
  refine sp_in (L := [some (.int (nI n)), none, none]) rfl (Nat.le_of_ble_eq_true rfl) rfl ?_
  refine go_iconst (v := nI 0) dX9_ones_0 rfl ?_
  refine go_istore_n (L' := [_, _, _]) dX9_ones_1 rfl (by decide) rfl rfl ?_
  refine go_iconst (v := nI 0) dX9_ones_2 rfl ?_
  refine go_istore_n (L' := [_, _, _]) dX9_ones_3 rfl (by decide) rfl rfl ?_
  exact lp_ones hn 6 0 rfl
set_option maxHeartbeats 1000000 in
theorem lp_fewM3 {Γ : Gm} {σ : Mm} {P : Pb} {n g : Nat} {x1 x2 x4 : Int32} {Q : Option Value → Mm → Prop} (hP : MP σ P) (hn : n < 64) (hg : g < pG P)
    (next : Go Γ 2 mX9_fewestOf Q 89 [some (rf Γ 58), some (.int x1), some (.int x2), some (.int (nI n)), some (.int x4), some (.int (nI g)), some (.int (bI (plG P n g))), none] [] σ) :
    ∀ (m d : Nat), d + m = pD P → Go Γ 2 mX9_fewestOf Q 35 [some (rf Γ 58), some (.int x1), some (.int x2), some (.int (nI n)), some (.int x4), some (.int (nI g)), some (.int (bI (anyB (plD P n g) d))), some (.int (nI d))] [] σ := by
  have hD := hP.1.2
  have hG := hP.2.1.2
  intro m
  induction m with
  | zero =>
    intro d hd
    have e : d = pD P := by omega
    subst e
    refine go_iload dX9_fewestOf_35 rfl ?_
    refine go_aload_n dX9_fewestOf_37 rfl rfl ?_
    refine go_getI flX9_90 fs_58_7 dX9_fewestOf_38 ?_
    rw [hP.1.1]
    refine go_icmp_ge (tgt := 89) dX9_fewestOf_41 (by decide) (fun c41 => ?_) (fun c41 => ?_)
    · exact go_sub [true, true, true, true, true, true, true, false] rfl next
    · exact absurd (Int32.le_refl _) c41
  | succ m ih =>
    intro d hd
    have hd1 : d < pD P := by omega
    have hb := bit_ok n hn d (by omega)
    have hwv := (hP.2.2.2 g hg).2.2 d hd1
    have stp := ih (d + 1) (by omega)
    have fin : ∀ b : Bool, anyB (plD P n g) (d + 1) = b → Go Γ 2 mX9_fewestOf Q 35 [some (rf Γ 58), some (.int x1), some (.int x2), some (.int (nI n)), some (.int x4), some (.int (nI g)), some (.int (bI b)), some (.int (nI (d + 1)))] [] σ := fun b hb => by
      rw [hb] at stp; exact stp
    refine go_iload dX9_fewestOf_35 rfl ?_
    refine go_aload_n dX9_fewestOf_37 rfl rfl ?_
    refine go_getI flX9_90 fs_58_7 dX9_fewestOf_38 ?_
    rw [hP.1.1]
    refine go_icmp_ge (tgt := 89) dX9_fewestOf_41 (by decide) (fun c41 => ?_) (fun c41 => ?_)
    · exact absurd c41 (nI_ge (by omega) (by omega))
    · refine go_iload dX9_fewestOf_44 rfl ?_
      refine go_if_ne (tgt := 76) dX9_fewestOf_46 (by decide) (fun c46 => ?_) (fun c46 => ?_)
      · refine go_iconst (v := nI 1) dX9_fewestOf_76 rfl ?_
        refine go_goto (tgt := 81) dX9_fewestOf_77 (by decide) ?_
        refine go_istore (L' := [_, _, _, _, _, _, _, _]) dX9_fewestOf_81 (by decide) rfl rfl ?_
        refine go_iinc (v := nI (d + 1)) (L' := [_, _, _, _, _, _, _, _]) dX9_fewestOf_83 rfl (nI_1 _) (by decide) rfl rfl ?_
        refine go_goto (tgt := 35) dX9_fewestOf_86 (by decide) ?_
        exact fin true (by unfold anyB; rw [bI_ne0.mp c46]; rfl)
      · refine go_iload_n dX9_fewestOf_49 rfl rfl ?_
        refine go_iload dX9_fewestOf_50 rfl ?_
        refine go_ishr dX9_fewestOf_52 ?_
        refine go_iconst (v := nI 1) dX9_fewestOf_53 rfl ?_
        refine go_iand dX9_fewestOf_54 ?_
        refine go_iconst (v := nI 1) dX9_fewestOf_55 rfl ?_
        refine go_icmp_ne (tgt := 80) dX9_fewestOf_56 (by decide) (fun c56 => ?_) (fun c56 => ?_)
        · refine go_iconst (v := nI 0) dX9_fewestOf_80 rfl ?_
          refine go_istore (L' := [_, _, _, _, _, _, _, _]) dX9_fewestOf_81 (by decide) rfl rfl ?_
          refine go_iinc (v := nI (d + 1)) (L' := [_, _, _, _, _, _, _, _]) dX9_fewestOf_83 rfl (nI_1 _) (by decide) rfl rfl ?_
          refine go_goto (tgt := 35) dX9_fewestOf_86 (by decide) ?_
          rw [hb, nI_eq (by omega) (by omega)] at c56
          exact fin false (by unfold anyB; rw [bI_eq0.mp c46]; simp [plD, c56])
        · refine go_aload_n dX9_fewestOf_59 rfl rfl ?_
          refine go_getR flX9_28 fs_58_16 dX9_fewestOf_60 ?_
          refine go_bipush (v := nI 6) dX9_fewestOf_63 rfl ?_
          refine go_iload dX9_fewestOf_65 rfl ?_
          refine go_imul dX9_fewestOf_67 ?_
          refine go_iload dX9_fewestOf_68 rfl ?_
          refine go_iadd dX9_fewestOf_70 ?_
          refine go_iald ((6 * g) + d) (by simp only [pk_mul, nI_add]) as_65 (by omega) (by decide) dX9_fewestOf_71 ?_
          rw [hwv]
          refine go_iconst (v := nI 5) dX9_fewestOf_72 rfl ?_
          refine go_icmp_lt (tgt := 80) dX9_fewestOf_73 (by decide) (fun c73 => ?_) (fun c73 => ?_)
          · refine go_iconst (v := nI 0) dX9_fewestOf_80 rfl ?_
            refine go_istore (L' := [_, _, _, _, _, _, _, _]) dX9_fewestOf_81 (by decide) rfl rfl ?_
            refine go_iinc (v := nI (d + 1)) (L' := [_, _, _, _, _, _, _, _]) dX9_fewestOf_83 rfl (nI_1 _) (by decide) rfl rfl ?_
            refine go_goto (tgt := 35) dX9_fewestOf_86 (by decide) ?_
            exact fin false (by unfold anyB; rw [bI_eq0.mp c46]; simp [plD, Int32.not_le.mpr c73])
          · refine go_iconst (v := nI 1) dX9_fewestOf_76 rfl ?_
            refine go_goto (tgt := 81) dX9_fewestOf_77 (by decide) ?_
            refine go_istore (L' := [_, _, _, _, _, _, _, _]) dX9_fewestOf_81 (by decide) rfl rfl ?_
            refine go_iinc (v := nI (d + 1)) (L' := [_, _, _, _, _, _, _, _]) dX9_fewestOf_83 rfl (nI_1 _) (by decide) rfl rfl ?_
            refine go_goto (tgt := 35) dX9_fewestOf_86 (by decide) ?_
            rw [hb, nI_eq (by omega) (by omega)] at c56
            exact fin true (by unfold anyB; rw [bI_eq0.mp c46]; simp [plD, c56, Int32.not_lt.mp c73])
set_option maxHeartbeats 1000000 in
theorem lp_fewM2 {Γ : Gm} {σ : Mm} {P : Pb} {n : Nat} {x1 x2 : Int32} {Q : Option Value → Mm → Prop} (hP : MP σ P) (hn : n < 64)
    (next : Go Γ 2 mX9_fewestOf Q 112 [some (rf Γ 58), some (.int x1), some (.int x2), some (.int (nI n)), some (.int (bI (plA P n))), none, none, none] [] σ) :
    ∀ (m g : Nat), g + m = pG P → Go Γ 2 mX9_fewestOf Q 20 [some (rf Γ 58), some (.int x1), some (.int x2), some (.int (nI n)), some (.int (bI (allB (plG P n) g))), some (.int (nI g)), none, none] [] σ := by
  have hG := hP.2.1.2
  intro m
  induction m with
  | zero =>
    intro g hg
    have e : g = pG P := by omega
    subst e
    refine go_iload dX9_fewestOf_20 rfl ?_
    refine go_aload_n dX9_fewestOf_22 rfl rfl ?_
    refine go_getI flX9_96 fs_58_14 dX9_fewestOf_23 ?_
    rw [hP.2.1.1]
    refine go_icmp_ge (tgt := 112) dX9_fewestOf_26 (by decide) (fun c26 => ?_) (fun c26 => ?_)
    · exact go_sub [true, true, true, true, true, false, true, true] rfl next
    · exact absurd (Int32.le_refl _) c26
  | succ m ih =>
    intro g hg
    have stp := ih (g + 1) (by omega)
    have fin : ∀ b : Bool, allB (plG P n) (g + 1) = b → Go Γ 2 mX9_fewestOf Q 20 [some (rf Γ 58), some (.int x1), some (.int x2), some (.int (nI n)), some (.int (bI b)), some (.int (nI (g + 1))), none, none] [] σ := fun b hb => by
      rw [hb] at stp; exact stp
    have n89 : Go Γ 2 mX9_fewestOf Q 89 [some (rf Γ 58), some (.int x1), some (.int x2), some (.int (nI n)), some (.int (bI (allB (plG P n) g))), some (.int (nI g)), some (.int (bI (plG P n g))), none] [] σ := by
      refine go_iload dX9_fewestOf_89 rfl ?_
      refine go_if_eq (tgt := 103) dX9_fewestOf_91 (by decide) (fun c91 => ?_) (fun c91 => ?_)
      · refine go_iconst (v := nI 0) dX9_fewestOf_103 rfl ?_
        refine go_istore (L' := [_, _, _, _, _, _, _, _]) dX9_fewestOf_104 (by decide) rfl rfl ?_
        refine go_iinc (v := nI (g + 1)) (L' := [_, _, _, _, _, _, _, _]) dX9_fewestOf_106 rfl (nI_1 _) (by decide) rfl rfl ?_
        refine go_goto (tgt := 20) dX9_fewestOf_109 (by decide) ?_
        exact go_sub [true, true, true, true, true, true, false, true] rfl (fin false (by unfold allB; rw [bI_eq0.mp c91]; rfl))
      · refine go_iload dX9_fewestOf_94 rfl ?_
        refine go_if_eq (tgt := 103) dX9_fewestOf_96 (by decide) (fun c96 => ?_) (fun c96 => ?_)
        · refine go_iconst (v := nI 0) dX9_fewestOf_103 rfl ?_
          refine go_istore (L' := [_, _, _, _, _, _, _, _]) dX9_fewestOf_104 (by decide) rfl rfl ?_
          refine go_iinc (v := nI (g + 1)) (L' := [_, _, _, _, _, _, _, _]) dX9_fewestOf_106 rfl (nI_1 _) (by decide) rfl rfl ?_
          refine go_goto (tgt := 20) dX9_fewestOf_109 (by decide) ?_
          exact go_sub [true, true, true, true, true, true, false, true] rfl (fin false (by unfold allB; rw [bI_eq0.mp c96]; simp))
        · refine go_iconst (v := nI 1) dX9_fewestOf_99 rfl ?_
          refine go_goto (tgt := 104) dX9_fewestOf_100 (by decide) ?_
          refine go_istore (L' := [_, _, _, _, _, _, _, _]) dX9_fewestOf_104 (by decide) rfl rfl ?_
          refine go_iinc (v := nI (g + 1)) (L' := [_, _, _, _, _, _, _, _]) dX9_fewestOf_106 rfl (nI_1 _) (by decide) rfl rfl ?_
          refine go_goto (tgt := 20) dX9_fewestOf_109 (by decide) ?_
          exact go_sub [true, true, true, true, true, true, false, true] rfl (fin true (by unfold allB; rw [bI_ne0.mp c91, bI_ne0.mp c96]; rfl))
    refine go_iload dX9_fewestOf_20 rfl ?_
    refine go_aload_n dX9_fewestOf_22 rfl rfl ?_
    refine go_getI flX9_96 fs_58_14 dX9_fewestOf_23 ?_
    rw [hP.2.1.1]
    refine go_icmp_ge (tgt := 112) dX9_fewestOf_26 (by decide) (fun c26 => ?_) (fun c26 => ?_)
    · exact absurd c26 (nI_ge (by omega) (by omega))
    · refine go_iconst (v := nI 0) dX9_fewestOf_29 rfl ?_
      refine go_istore (L' := [_, _, _, _, _, _, _, _]) dX9_fewestOf_30 (by decide) rfl rfl ?_
      refine go_iconst (v := nI 0) dX9_fewestOf_32 rfl ?_
      refine go_istore (L' := [_, _, _, _, _, _, _, _]) dX9_fewestOf_33 (by decide) rfl rfl ?_
      exact lp_fewM3 hP hn (by omega) n89 (pD P) 0 (by omega)
set_option maxHeartbeats 2000000 in
theorem lp_fewM1 {Γ : Gm} {σ : Mm} {P : Pb} {w : Nat} (hP : MP σ P) (hw : w < 2) : ∀ (m k : Nat), k + m = 2 ^ pD P → Go Γ 2 mX9_fewestOf (aP (fewV P w) σ) 4 [some (rf Γ 58), some (.int (nI w)), some (.int (oV (fwN P k))), some (.int (nI k)), none, none, none, none] [] σ := by
  have hD := hP.1.2
  have h64 := pw_le hD
  intro m
  induction m with
  | zero =>
    intro k hk
    have e : k = 2 ^ pD P := by omega
    subst e
    cases hb : fwN P (2 ^ pD P) with
    | none =>
      have ef : fewV P w = -1 := by unfold fewV fewM; rw [hb]
      refine go_iload_n dX9_fewestOf_4 rfl rfl ?_
      refine go_iconst (v := nI 1) dX9_fewestOf_5 rfl ?_
      refine go_aload_n dX9_fewestOf_6 rfl rfl ?_
      refine go_getI flX9_90 fs_58_7 dX9_fewestOf_7 ?_
      rw [hP.1.1]
      refine go_ishl dX9_fewestOf_10 ?_
      rw [shl_ok (pD P) (by omega)]
      refine go_icmp_ge (tgt := 145) dX9_fewestOf_11 (by decide) (fun c11 => ?_) (fun c11 => ?_)
      · refine go_iload_n dX9_fewestOf_145 rfl rfl ?_
        refine go_iconst (v := (-1)) dX9_fewestOf_146 rfl ?_
        refine go_icmp_eq (tgt := 155) dX9_fewestOf_147 (by decide) (fun c147 => ?_) (fun c147 => ?_)
        · refine go_iload_n dX9_fewestOf_155 rfl rfl ?_
          refine go_goto (tgt := 163) dX9_fewestOf_156 (by decide) ?_
          refine go_iret rfl dX9_fewestOf_163 ?_
          exact ⟨by rw [ef]; rfl, rfl⟩
        · exact absurd rfl c147
      · exact absurd (Int32.le_refl _) c11
    | some b =>
      have hbl := fwN_lt _ b hb
      have ef : fewV P w = if w = 1 then nI b else nI (pop b) := by unfold fewV fewM; rw [hb]
      refine go_iload_n dX9_fewestOf_4 rfl rfl ?_
      refine go_iconst (v := nI 1) dX9_fewestOf_5 rfl ?_
      refine go_aload_n dX9_fewestOf_6 rfl rfl ?_
      refine go_getI flX9_90 fs_58_7 dX9_fewestOf_7 ?_
      rw [hP.1.1]
      refine go_ishl dX9_fewestOf_10 ?_
      rw [shl_ok (pD P) (by omega)]
      refine go_icmp_ge (tgt := 145) dX9_fewestOf_11 (by decide) (fun c11 => ?_) (fun c11 => ?_)
      · refine go_iload_n dX9_fewestOf_145 rfl rfl ?_
        refine go_iconst (v := (-1)) dX9_fewestOf_146 rfl ?_
        refine go_icmp_eq (tgt := 155) dX9_fewestOf_147 (by decide) (fun c147 => ?_) (fun c147 => ?_)
        · exact absurd c147 (nI_neg1 (by omega))
        · refine go_iload_n dX9_fewestOf_150 rfl rfl ?_
          refine go_iconst (v := nI 1) dX9_fewestOf_151 rfl ?_
          refine go_icmp_ne (tgt := 159) dX9_fewestOf_152 (by decide) (fun c152 => ?_) (fun c152 => ?_)
          · refine go_iload_n dX9_fewestOf_159 rfl rfl ?_
            refine go_callSp csX9_192 (sm_ones (show b < 64 by omega)) (by omega) rfl rfl (Nat.le_of_ble_eq_true rfl) dX9_fewestOf_160 ?_
            refine go_iret rfl dX9_fewestOf_163 ?_
            exact ⟨by rw [ef, if_neg (fun z => c152 (by rw [z]))], rfl⟩
          · refine go_iload_n dX9_fewestOf_155 rfl rfl ?_
            refine go_goto (tgt := 163) dX9_fewestOf_156 (by decide) ?_
            refine go_iret rfl dX9_fewestOf_163 ?_
            exact ⟨by rw [ef, if_pos ((nI_eq (by omega) (by omega)).mp c152)]; rfl, rfl⟩
      · exact absurd (Int32.le_refl _) c11
  | succ m ih =>
    intro k hk
    have hk1 : k < 64 := by omega
    have stp := ih (k + 1) (by omega)
    have yes : (plA P k && fwB k (fwN P k)) = true → Go Γ 2 mX9_fewestOf (aP (fewV P w) σ) 4 [some (rf Γ 58), some (.int (nI w)), some (.int (nI k)), some (.int (nI (k + 1))), none, none, none, none] [] σ := by
      intro q
      rw [show fwN P (k + 1) = some k by conv => lhs; unfold fwN; rw [if_pos q]] at stp
      exact stp
    have no : ¬ (plA P k && fwB k (fwN P k)) = true → Go Γ 2 mX9_fewestOf (aP (fewV P w) σ) 4 [some (rf Γ 58), some (.int (nI w)), some (.int (oV (fwN P k))), some (.int (nI (k + 1))), none, none, none, none] [] σ := by
      intro q
      rw [show fwN P (k + 1) = fwN P k by conv => lhs; unfold fwN; rw [if_neg q]] at stp
      exact stp
    have n112 : Go Γ 2 mX9_fewestOf (aP (fewV P w) σ) 112 [some (rf Γ 58), some (.int (nI w)), some (.int (oV (fwN P k))), some (.int (nI k)), some (.int (bI (plA P k))), none, none, none] [] σ := by
      cases hb : fwN P k with
      | none =>
        rw [hb] at yes no
        refine go_iload dX9_fewestOf_112 rfl ?_
        refine go_if_eq (tgt := 137) dX9_fewestOf_114 (by decide) (fun c114 => ?_) (fun c114 => ?_)
        · refine go_iload_n dX9_fewestOf_137 rfl rfl ?_
          refine go_istore_n (L' := [_, _, _, _, _, _, _, _]) dX9_fewestOf_138 rfl (by decide) rfl rfl ?_
          refine go_iinc (v := nI (k + 1)) (L' := [_, _, _, _, _, _, _, _]) dX9_fewestOf_139 rfl (nI_1 _) (by decide) rfl rfl ?_
          refine go_goto (tgt := 4) dX9_fewestOf_142 (by decide) ?_
          exact go_sub [true, true, true, true, false, true, true, true] rfl (no (by rw [bI_eq0.mp c114]; simp))
        · refine go_iload_n dX9_fewestOf_117 rfl rfl ?_
          refine go_iconst (v := (-1)) dX9_fewestOf_118 rfl ?_
          refine go_icmp_eq (tgt := 133) dX9_fewestOf_119 (by decide) (fun c119 => ?_) (fun c119 => ?_)
          · refine go_iload_n dX9_fewestOf_133 rfl rfl ?_
            refine go_goto (tgt := 138) dX9_fewestOf_134 (by decide) ?_
            refine go_istore_n (L' := [_, _, _, _, _, _, _, _]) dX9_fewestOf_138 rfl (by decide) rfl rfl ?_
            refine go_iinc (v := nI (k + 1)) (L' := [_, _, _, _, _, _, _, _]) dX9_fewestOf_139 rfl (nI_1 _) (by decide) rfl rfl ?_
            refine go_goto (tgt := 4) dX9_fewestOf_142 (by decide) ?_
            exact go_sub [true, true, true, true, false, true, true, true] rfl (yes (by rw [bI_ne0.mp c114]; rfl))
          · exact absurd rfl c119
      | some b =>
        have hbl := fwN_lt k b hb
        rw [hb] at yes no
        have p1 := pop_lt k
        have p2 := pop_lt b
        refine go_iload dX9_fewestOf_112 rfl ?_
        refine go_if_eq (tgt := 137) dX9_fewestOf_114 (by decide) (fun c114 => ?_) (fun c114 => ?_)
        · refine go_iload_n dX9_fewestOf_137 rfl rfl ?_
          refine go_istore_n (L' := [_, _, _, _, _, _, _, _]) dX9_fewestOf_138 rfl (by decide) rfl rfl ?_
          refine go_iinc (v := nI (k + 1)) (L' := [_, _, _, _, _, _, _, _]) dX9_fewestOf_139 rfl (nI_1 _) (by decide) rfl rfl ?_
          refine go_goto (tgt := 4) dX9_fewestOf_142 (by decide) ?_
          exact go_sub [true, true, true, true, false, true, true, true] rfl (no (by rw [bI_eq0.mp c114]; simp))
        · refine go_iload_n dX9_fewestOf_117 rfl rfl ?_
          refine go_iconst (v := (-1)) dX9_fewestOf_118 rfl ?_
          refine go_icmp_eq (tgt := 133) dX9_fewestOf_119 (by decide) (fun c119 => ?_) (fun c119 => ?_)
          · exact absurd c119 (nI_neg1 (by omega))
          · refine go_iload_n dX9_fewestOf_122 rfl rfl ?_
            refine go_callSp csX9_192 (sm_ones hk1) (by omega) rfl rfl (Nat.le_of_ble_eq_true rfl) dX9_fewestOf_123 ?_
            refine go_iload_n dX9_fewestOf_126 rfl rfl ?_
            refine go_callSp csX9_192 (sm_ones (show b < 64 by omega)) (by omega) rfl rfl (Nat.le_of_ble_eq_true rfl) dX9_fewestOf_127 ?_
            refine go_icmp_ge (tgt := 137) dX9_fewestOf_130 (by decide) (fun c130 => ?_) (fun c130 => ?_)
            · refine go_iload_n dX9_fewestOf_137 rfl rfl ?_
              refine go_istore_n (L' := [_, _, _, _, _, _, _, _]) dX9_fewestOf_138 rfl (by decide) rfl rfl ?_
              refine go_iinc (v := nI (k + 1)) (L' := [_, _, _, _, _, _, _, _]) dX9_fewestOf_139 rfl (nI_1 _) (by decide) rfl rfl ?_
              refine go_goto (tgt := 4) dX9_fewestOf_142 (by decide) ?_
              exact go_sub [true, true, true, true, false, true, true, true] rfl (no (by rw [nI_leI (by omega) (by omega)] at c130; simp [fwB]; intro _; omega))
            · refine go_iload_n dX9_fewestOf_133 rfl rfl ?_
              refine go_goto (tgt := 138) dX9_fewestOf_134 (by decide) ?_
              refine go_istore_n (L' := [_, _, _, _, _, _, _, _]) dX9_fewestOf_138 rfl (by decide) rfl rfl ?_
              refine go_iinc (v := nI (k + 1)) (L' := [_, _, _, _, _, _, _, _]) dX9_fewestOf_139 rfl (nI_1 _) (by decide) rfl rfl ?_
              refine go_goto (tgt := 4) dX9_fewestOf_142 (by decide) ?_
              exact go_sub [true, true, true, true, false, true, true, true] rfl (yes (by rw [bI_ne0.mp c114]; rw [nI_leI (by omega) (by omega)] at c130; simp [fwB]; omega))
    refine go_iload_n dX9_fewestOf_4 rfl rfl ?_
    refine go_iconst (v := nI 1) dX9_fewestOf_5 rfl ?_
    refine go_aload_n dX9_fewestOf_6 rfl rfl ?_
    refine go_getI flX9_90 fs_58_7 dX9_fewestOf_7 ?_
    rw [hP.1.1]
    refine go_ishl dX9_fewestOf_10 ?_
    rw [shl_ok (pD P) (by omega)]
    refine go_icmp_ge (tgt := 145) dX9_fewestOf_11 (by decide) (fun c11 => ?_) (fun c11 => ?_)
    · exact absurd c11 (nI_ge (by omega) (by omega))
    · refine go_iconst (v := nI 1) dX9_fewestOf_14 rfl ?_
      refine go_istore (L' := [_, _, _, _, _, _, _, _]) dX9_fewestOf_15 (by decide) rfl rfl ?_
      refine go_iconst (v := nI 0) dX9_fewestOf_17 rfl ?_
      refine go_istore (L' := [_, _, _, _, _, _, _, _]) dX9_fewestOf_18 (by decide) rfl rfl ?_
      exact lp_fewM2 hP hk1 n112 (pG P) 0 (by omega)
set_option maxHeartbeats 1000000 in
theorem sm_fewestOf {Γ : Gm} {σ : Mm} {P : Pb} {w : Nat} {x : Int32} (hP : MP σ P) (hw : w < 2) (e : x = nI w) : Sp Γ 2 mX9_fewestOf [rf Γ 58, .int x] σ (aP (fewV P w) σ) := by
  subst e
  refine sp_in (L := [some (rf Γ 58), some (.int (nI w)), none, none, none, none, none, none]) rfl (Nat.le_of_ble_eq_true rfl) rfl ?_
  refine go_iconst (v := (-1)) dX9_fewestOf_0 rfl ?_
  refine go_istore_n (L' := [_, _, _, _, _, _, _, _]) dX9_fewestOf_1 rfl (by decide) rfl rfl ?_
  refine go_iconst (v := nI 0) dX9_fewestOf_2 rfl ?_
  refine go_istore_n (L' := [_, _, _, _, _, _, _, _]) dX9_fewestOf_3 rfl (by decide) rfl rfl ?_
  exact lp_fewM1 hP hw (2 ^ pD P) 0 (by omega)
set_option maxHeartbeats 2000000 in
theorem lp_urgM {Γ : Gm} {σ : Mm} {P : Pb} {d f : Nat} {times : Int32} (hP : MP σ P) (hf : f < pG P) : ∀ (n m : Nat) (σ' : Mm), m + n = 21 → OM σ σ' → σ'.1 58 18 = pLo P → σ'.1 58 19 = nI d → Go Γ 5 mX9_urges (aI (urgM P d f times n m) (OM σ)) 50 [some (rf Γ 58), some (.int (nI d)), some (.int (nI f)), some (.int times), some (.int (nI m))] [] σ' := by
  intro n
  induction n with
  | zero =>
    intro m σ' hm hO _ _
    have e : m = 21 := by omega
    subst e
    refine go_iload dX9_urges_50 rfl ?_
    refine go_bipush (v := nI 20) dX9_urges_52 rfl ?_
    refine go_icmp_gt (tgt := 90) dX9_urges_54 (by decide) (fun c54 => ?_) (fun c54 => ?_)
    · refine go_iconst (v := (-1)) dX9_urges_90 rfl ?_
      refine go_iret rfl dX9_urges_91 ?_
      exact ⟨rfl, hO⟩
    · exact absurd (by decide) c54
  | succ n ih =>
    intro m σ' hm hO h18 h19
    have hO1 : OM σ (stI σ' 58 20 (nI m)) := hO.s58 (by omega)
    have hP1 : MP (stI σ' 58 20 (nI m)) (setUr P (nI d) (nI m)) := hP.om hO1
    have hB1 : BY (stI σ' 58 20 (nI m)) (setUr P (nI d) (nI m)) := ⟨by rw [stI_ne (by omega)]; exact h18, by rw [stI_ne (by omega)]; exact h19, stI_at⟩
    refine go_iload dX9_urges_50 rfl ?_
    refine go_bipush (v := nI 20) dX9_urges_52 rfl ?_
    refine go_icmp_gt (tgt := 90) dX9_urges_54 (by decide) (fun c54 => ?_) (fun c54 => ?_)
    · exact absurd c54 (nI_nlt (by omega) (by omega))
    · refine go_aload_n dX9_urges_57 rfl rfl ?_
      refine go_iload dX9_urges_58 rfl ?_
      refine go_putI fwX9_145 fs_58_20 dX9_urges_60 ?_
      refine go_aload_n dX9_urges_63 rfl rfl ?_
      refine go_iload_n dX9_urges_64 rfl rfl ?_
      refine go_callVv cvX9_165 os_58 (sm_lay hP1 hB1 hf) (by omega) rfl rfl (Nat.le_of_ble_eq_true rfl) dX9_urges_65 (fun σ2 q2 => ?_)
      refine go_aload_n dX9_urges_68 rfl rfl ?_
      refine go_aload_n dX9_urges_69 rfl rfl ?_
      refine go_getR flX9_34 fs_58_21 dX9_urges_70 ?_
      refine go_iload_n dX9_urges_73 rfl rfl ?_
      refine go_callVp cvX9_108 os_58 (sm_haveOf isR67 (hP1.om q2.2.om) q2.1) (by omega) rfl rfl (Nat.le_of_ble_eq_true rfl) dX9_urges_74 ?_
      rw [show pG (setUr P (nI d) (nI m)) = pG P from rfl]
      refine go_iload_n dX9_urges_77 rfl rfl ?_
      refine go_icmp_lt (tgt := 84) dX9_urges_78 (by decide) (fun c78 => ?_) (fun c78 => ?_)
      · refine go_iinc (v := nI (m + 1)) (L' := [_, _, _, _, _]) dX9_urges_84 rfl (nI_1 _) (by decide) rfl rfl ?_
        refine go_goto (tgt := 50) dX9_urges_87 (by decide) ?_
        have e1 : urgM P d f times (n + 1) m = urgM P d f times n (m + 1) := by conv => lhs; unfold urgM; rw [if_neg (Int32.not_le.mpr c78)]
        rw [e1]
        exact ih (m + 1) σ2 (by omega) (hO1.trans q2.2.om) (by rw [q2.2.1 58 (by omega)]; exact hB1.1) (by rw [q2.2.1 58 (by omega)]; exact hB1.2.1)
      · refine go_iload dX9_urges_81 rfl ?_
        refine go_iret rfl dX9_urges_83 ?_
        refine ⟨?_, hO1.trans q2.2.om⟩
        unfold urgM
        rw [if_pos (Int32.not_lt.mp c78)]
/-- the model's evenings -/
def ML (σ : Mm) (G : Nat) (E : Ev) : Prop := σ.1 58 23 = nI E.1 ∧ E.1 ≤ 4 ∧ ∀ e, e < E.1 → σ.1 68 (3 * e) = nI (E.2.1 e) ∧ E.2.1 e < G ∧ σ.1 68 (3 * e + 1) = nI (E.2.2.1 e) ∧ E.2.2.1 e < G ∧ σ.1 68 (3 * e + 2) = E.2.2.2 e
theorem ML.om {σ σ' : Mm} {G : Nat} {E : Ev} (h : OM σ σ') (hL : ML σ G E) : ML σ' G E := by
  unfold ML
  rw [h.1 68 (by omega) (by omega) (by omega) (by omega) (by omega), h.2.1 23 (by omega) (by omega) (by omega) (by omega) (by omega) (by omega) (by omega)]
  exact hL
set_option maxHeartbeats 2000000 in
theorem lp_fitM2 {Γ : Gm} {σ : Mm} {P : Pb} {E : Ev} {k : Nat} {x1 : Int32} {Q : Option Value → Mm → Prop} (hP : MP σ P) (hE : ML σ (pG P) E) (hB : BY σ (setLo P (nI k)))
    (next : ∀ σ', O67 σ σ' → Go Γ 5 mX9_fitsOf Q 92 [some (rf Γ 58), some (.int x1), some (.int (nI k)), some (.int (bI (fitB P E (nI k)))), none] [] σ') :
    ∀ (m e : Nat) (σ' : Mm), e + m = E.1 → O67 σ σ' → Go Γ 5 mX9_fitsOf Q 24 [some (rf Γ 58), some (.int x1), some (.int (nI k)), some (.int (bI (allB (fitE P E (nI k)) e))), some (.int (nI e))] [] σ' := by
  have hD := hP.1.2
  have hG := hP.2.1.2
  have h4 := hE.2.1
  intro m
  induction m with
  | zero =>
    intro e σ' he hO
    have q : e = E.1 := by omega
    subst q
    refine go_iload dX9_fitsOf_24 rfl ?_
    refine go_aload_n dX9_fitsOf_26 rfl rfl ?_
    refine go_getI flX9_99 fs_58_23 dX9_fitsOf_27 ?_
    rw [(hE.om hO.om).1]
    refine go_icmp_ge (tgt := 92) dX9_fitsOf_30 (by decide) (fun c30 => ?_) (fun c30 => ?_)
    · exact go_sub [true, true, true, true, false] rfl (next σ' hO)
    · exact absurd (Int32.le_refl _) c30
  | succ m ih =>
    intro e σ' he hO
    have he1 : e < E.1 := by omega
    have hE' := hE.om hO.om
    obtain ⟨f1, f2, f3, f4, f5⟩ := hE.2.2 e he1
    refine go_iload dX9_fitsOf_24 rfl ?_
    refine go_aload_n dX9_fitsOf_26 rfl rfl ?_
    refine go_getI flX9_99 fs_58_23 dX9_fitsOf_27 ?_
    rw [hE'.1]
    refine go_icmp_ge (tgt := 92) dX9_fitsOf_30 (by decide) (fun c30 => ?_) (fun c30 => ?_)
    · exact absurd c30 (nI_ge (by omega) (by omega))
    · refine go_iload_n dX9_fitsOf_33 rfl rfl ?_
      refine go_if_eq (tgt := 92) dX9_fitsOf_34 (by decide) (fun c34 => ?_) (fun c34 => ?_)
      · have z : fitB P E (nI k) = false := by
          have h1 := bI_eq0.mp c34
          cases hf : fitB P E (nI k) with
          | false => rfl
          | true => rw [allB_iff.mpr (fun j hj => allB_iff.mp hf j (by omega))] at h1; cases h1
        have := next σ' hO
        rw [z] at this
        rw [bI_eq0.mp c34]
        exact go_sub [true, true, true, true, false] rfl this
      · refine go_aload_n dX9_fitsOf_37 rfl rfl ?_
        refine go_aload_n dX9_fitsOf_38 rfl rfl ?_
        refine go_getR flX9_37 fs_58_24 dX9_fitsOf_39 ?_
        refine go_iconst (v := nI 3) dX9_fitsOf_42 rfl ?_
        refine go_iload dX9_fitsOf_43 rfl ?_
        refine go_imul dX9_fitsOf_45 ?_
        refine go_iald (3 * e) (by simp only [pk_mul, nI_add]) as_68 (by omega) (by decide) dX9_fitsOf_46 ?_
        rw [(hE'.2.2 e he1).1]
        refine go_callVv cvX9_165 os_58 (sm_lay (P := setLo P (nI k)) (hP.om hO.om) (hB.o67 hO) f2) (by omega) rfl rfl (Nat.le_of_ble_eq_true rfl) dX9_fitsOf_47 (fun σ3 q3 => ?_)
        have o3 := hO.trans q3.2
        refine go_aload_n dX9_fitsOf_50 rfl rfl ?_
        refine go_getR flX9_34 fs_58_21 dX9_fitsOf_51 ?_
        refine go_aload_n dX9_fitsOf_54 rfl rfl ?_
        refine go_getR flX9_37 fs_58_24 dX9_fitsOf_55 ?_
        refine go_iconst (v := nI 3) dX9_fitsOf_58 rfl ?_
        refine go_iload dX9_fitsOf_59 rfl ?_
        refine go_imul dX9_fitsOf_61 ?_
        refine go_iconst (v := nI 1) dX9_fitsOf_62 rfl ?_
        refine go_iadd dX9_fitsOf_63 ?_
        refine go_iald ((3 * e) + 1) (by simp only [pk_mul, nI_add]) as_68 (by omega) (by decide) dX9_fitsOf_64 ?_
        rw [((hE.om o3.om).2.2 e he1).2.2.1]
        refine go_iald (E.2.2.1 e) rfl as_67 (by omega) (by decide) dX9_fitsOf_65 ?_
        rw [q3.1 (E.2.2.1 e) f4]
        refine go_aload_n dX9_fitsOf_66 rfl rfl ?_
        refine go_getR flX9_37 fs_58_24 dX9_fitsOf_67 ?_
        refine go_iconst (v := nI 3) dX9_fitsOf_70 rfl ?_
        refine go_iload dX9_fitsOf_71 rfl ?_
        refine go_imul dX9_fitsOf_73 ?_
        refine go_iconst (v := nI 2) dX9_fitsOf_74 rfl ?_
        refine go_iadd dX9_fitsOf_75 ?_
        refine go_iald ((3 * e) + 2) (by simp only [pk_mul, nI_add]) as_68 (by omega) (by decide) dX9_fitsOf_76 ?_
        rw [((hE.om o3.om).2.2 e he1).2.2.2.2]
        refine go_icmp_ne (tgt := 84) dX9_fitsOf_77 (by decide) (fun c77 => ?_) (fun c77 => ?_)
        · refine go_iconst (v := nI 0) dX9_fitsOf_84 rfl ?_
          refine go_istore_n (L' := [_, _, _, _, _]) dX9_fitsOf_85 rfl (by decide) rfl rfl ?_
          refine go_iinc (v := nI (e + 1)) (L' := [_, _, _, _, _]) dX9_fitsOf_86 rfl (nI_1 _) (by decide) rfl rfl ?_
          refine go_goto (tgt := 24) dX9_fitsOf_89 (by decide) ?_
          have := ih (e + 1) σ3 (by omega) o3
          rw [show allB (fitE P E (nI k)) (e + 1) = false by unfold allB; rw [show fitE P E (nI k) e = false from decide_eq_false c77]; simp] at this
          exact this
        · refine go_iconst (v := nI 1) dX9_fitsOf_80 rfl ?_
          refine go_goto (tgt := 85) dX9_fitsOf_81 (by decide) ?_
          refine go_istore_n (L' := [_, _, _, _, _]) dX9_fitsOf_85 rfl (by decide) rfl rfl ?_
          refine go_iinc (v := nI (e + 1)) (L' := [_, _, _, _, _]) dX9_fitsOf_86 rfl (nI_1 _) (by decide) rfl rfl ?_
          refine go_goto (tgt := 24) dX9_fitsOf_89 (by decide) ?_
          have := ih (e + 1) σ3 (by omega) o3
          rw [show allB (fitE P E (nI k)) (e + 1) = true by unfold allB; rw [show fitE P E (nI k) e = true from decide_eq_true c77, bI_ne0.mp c34]; rfl] at this
          exact this
theorem ftL_no {f : Nat → Bool} {k : Nat} (h : f k = false) : ftL f (k + 1) = ftL f k ||| nI 0 := by
  show (if f k = true then _ else ftL f k) = _
  rw [h, if_neg (by decide)]
  exact (Int32.or_zero).symm
set_option maxHeartbeats 2000000 in
theorem lp_fitM1 {Γ : Gm} {σ : Mm} {P : Pb} {E : Ev} (hP : MP σ P) (hE : ML σ (pG P) E) : ∀ (m k : Nat) (σ' : Mm), k + m = 10 → OM σ σ' → σ'.1 58 19 = pUr P → σ'.1 58 20 = pMu P → Go Γ 5 mX9_fitsOf (aI (fitsM P E) (OM σ)) 8 [some (rf Γ 58), some (.int (ftL (fun k => fitB P E (nI k)) k)), some (.int (nI k)), none, none] [] σ' := by
  intro m
  induction m with
  | zero =>
    intro k σ' hk hO _ _
    have e : k = 10 := by omega
    subst e
    refine go_iload_n dX9_fitsOf_8 rfl rfl ?_
    refine go_bipush (v := nI 10) dX9_fitsOf_9 rfl ?_
    refine go_icmp_ge (tgt := 112) dX9_fitsOf_11 (by decide) (fun c11 => ?_) (fun c11 => ?_)
    · refine go_iload_n dX9_fitsOf_112 rfl rfl ?_
      refine go_iret rfl dX9_fitsOf_113 ?_
      exact ⟨rfl, hO⟩
    · exact absurd (Int32.le_refl _) c11
  | succ m ih =>
    intro k σ' hk hO h19 h20
    have hO1 : OM σ (stI σ' 58 18 (nI k)) := hO.s58 (by omega)
    have hB1 : BY (stI σ' 58 18 (nI k)) (setLo P (nI k)) := ⟨stI_at, by rw [stI_ne (by omega)]; exact h19, by rw [stI_ne (by omega)]; exact h20⟩
    have n92 : ∀ σ2, O67 (stI σ' 58 18 (nI k)) σ2 → Go Γ 5 mX9_fitsOf (aI (fitsM P E) (OM σ)) 92 [some (rf Γ 58), some (.int (ftL (fun k => fitB P E (nI k)) k)), some (.int (nI k)), some (.int (bI (fitB P E (nI k)))), none] [] σ2 := by
      intro σ2 hO2
      have hO3 := hO1.trans hO2.om
      have stp := ih (k + 1) σ2 (by omega) hO3 (by rw [hO2.1 58 (by omega)]; exact hB1.2.1) (by rw [hO2.1 58 (by omega)]; exact hB1.2.2)
      refine go_iload_n dX9_fitsOf_92 rfl rfl ?_
      refine go_iload_n dX9_fitsOf_93 rfl rfl ?_
      refine go_if_eq (tgt := 103) dX9_fitsOf_94 (by decide) (fun c94 => ?_) (fun c94 => ?_)
      · refine go_iconst (v := nI 0) dX9_fitsOf_103 rfl ?_
        refine go_ior dX9_fitsOf_104 ?_
        refine go_istore_n (L' := [_, _, _, _, _]) dX9_fitsOf_105 rfl (by decide) rfl rfl ?_
        refine go_iinc (v := nI (k + 1)) (L' := [_, _, _, _, _]) dX9_fitsOf_106 rfl (nI_1 _) (by decide) rfl rfl ?_
        refine go_goto (tgt := 8) dX9_fitsOf_109 (by decide) ?_
        rw [show ftL (fun k => fitB P E (nI k)) (k + 1) = ftL (fun k => fitB P E (nI k)) k ||| nI 0 from ftL_no (bI_eq0.mp c94)] at stp
        exact go_sub [true, true, true, false, true] rfl stp
      · refine go_iconst (v := nI 1) dX9_fitsOf_97 rfl ?_
        refine go_iload_n dX9_fitsOf_98 rfl rfl ?_
        refine go_ishl dX9_fitsOf_99 ?_
        refine go_goto (tgt := 104) dX9_fitsOf_100 (by decide) ?_
        refine go_ior dX9_fitsOf_104 ?_
        refine go_istore_n (L' := [_, _, _, _, _]) dX9_fitsOf_105 rfl (by decide) rfl rfl ?_
        refine go_iinc (v := nI (k + 1)) (L' := [_, _, _, _, _]) dX9_fitsOf_106 rfl (nI_1 _) (by decide) rfl rfl ?_
        refine go_goto (tgt := 8) dX9_fitsOf_109 (by decide) ?_
        rw [show ftL (fun k => fitB P E (nI k)) (k + 1) = ftL (fun k => fitB P E (nI k)) k ||| (nI 1 <<< (nI k &&& 31)) by conv => lhs; unfold ftL; rw [if_pos (bI_ne0.mp c94)]] at stp
        exact go_sub [true, true, true, false, true] rfl stp
    refine go_iload_n dX9_fitsOf_8 rfl rfl ?_
    refine go_bipush (v := nI 10) dX9_fitsOf_9 rfl ?_
    refine go_icmp_ge (tgt := 112) dX9_fitsOf_11 (by decide) (fun c11 => ?_) (fun c11 => ?_)
    · exact absurd c11 (nI_ge (by omega) (by omega))
    · refine go_aload_n dX9_fitsOf_14 rfl rfl ?_
      refine go_iload_n dX9_fitsOf_15 rfl rfl ?_
      refine go_putI fwX9_139 fs_58_18 dX9_fitsOf_16 ?_
      refine go_iconst (v := nI 1) dX9_fitsOf_19 rfl ?_
      refine go_istore_n (L' := [_, _, _, _, _]) dX9_fitsOf_20 rfl (by decide) rfl rfl ?_
      refine go_iconst (v := nI 0) dX9_fitsOf_21 rfl ?_
      refine go_istore (L' := [_, _, _, _, _]) dX9_fitsOf_22 (by decide) rfl rfl ?_
      exact lp_fitM2 (hP.om hO1) (hE.om hO1) hB1 n92 E.1 0 _ (by omega) O67.rf
set_option maxHeartbeats 1000000 in
theorem sm_fitsOf {Γ : Gm} {σ : Mm} {P : Pb} {E : Ev} (hS : MS σ P) (hE : ML σ (pG P) E) : Sp Γ 5 mX9_fitsOf [rf Γ 58] σ (aI (fitsM P E) (OM σ)) := by
  refine sp_in (L := [some (rf Γ 58), none, none, none, none]) rfl (Nat.le_of_ble_eq_true rfl) rfl ?_
  refine go_iconst (v := nI 0) dX9_fitsOf_0 rfl ?_
  refine go_istore_n (L' := [_, _, _, _, _]) dX9_fitsOf_1 rfl (by decide) rfl rfl ?_
  refine go_aload_n dX9_fitsOf_2 rfl rfl ?_
  refine go_callVv cvX9_156 os_58 (sm_asItIs hS) (by omega) rfl rfl (Nat.le_of_ble_eq_true rfl) dX9_fitsOf_3 (fun σ1 q1 => ?_)
  refine go_iconst (v := nI 0) dX9_fitsOf_6 rfl ?_
  refine go_istore_n (L' := [_, _, _, _, _]) dX9_fitsOf_7 rfl (by decide) rfl rfl ?_
  exact go_mono (fun v σ' h => ⟨h.1, q1.2.1.trans h.2⟩) (lp_fitM1 (hS.1.om q1.2.1) (hE.om q1.2.1) 10 0 σ1 rfl OM.rf q1.1.2.1 q1.1.2.2)
