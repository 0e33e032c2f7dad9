/-! the model's page -/
theorem in_dg {lo : Nat} {c : Int32} (hl : lo ≤ 9) : inR (nI lo) (nI 9) (c - nI 48) = dg (lo + 48) c := by
  have e2 : ∀ x : Int32, x = x - nI 48 + nI 48 := fun x => by grind
  cases h : dg (lo + 48) c with
  | true =>
    obtain ⟨k, e, h1, h2⟩ := dg_num (by omega) (by omega) h
    rw [e]
    have a1 : nI lo ≤ nI k := nI_le (by omega) (by omega)
    have a2 : nI k ≤ nI 9 := nI_le (by omega) (by omega)
    simp [inR, a1, a2]
  | false =>
    cases hq : inR (nI lo) (nI 9) (c - nI 48) with
    | false => rfl
    | true =>
      unfold inR at hq
      simp only [Bool.and_eq_true, decide_eq_true_eq] at hq
      obtain ⟨v, hv, e⟩ := nI_of (x := c - nI 48) (fun z => nI_pos (n := lo) (by omega) (Int32.lt_of_le_of_lt hq.1 z))
      rw [e, nI_leI (by omega) (by omega), nI_leI (by omega) (by omega)] at hq
      have ec : c = nI (v + 48) := by rw [e2 c, e, nI_add]
      subst ec
      unfold dg at h
      have a1 : nI (lo + 48) ≤ nI (v + 48) := nI_le (by omega) (by omega)
      have a2 : nI (v + 48) ≤ nI 57 := nI_le (by omega) (by omega)
      simp [a1, a2] at h
/-- where the reader stands behind k letters -/
def stO (pg : Nat → Int32) (k : Nat) : Nat := if 0 < k ∧ pg (k - 1) = nI 59 then 3 else if 1 < k ∧ pg (k - 2) = nI 59 then 4 else k % 3
def goB (st many : Nat) (c : Int32) : Bool :=
  if st < 2 then inR (nI 1) (nI 9) (c - nI 48)
  else if st = 2 then (if c = nI 44 then decide (many < 6) else decide (c = nI 59) && decide (1 < many))
  else decide (st = 3) && inR (nI 0) (nI 9) (c - nI 48)
/-- and what it has read -/
def goM (st many : Nat) (c : Int32) (σ : Mm) : Mm :=
  if st = 0 then stI (stI σ 58 6 (nI 1)) 60 many (c - nI 48)
  else if st = 1 then stI (stI (stI σ 58 6 (nI 2)) 61 many (c - nI 48)) 58 4 (nI (many + 1))
  else if st = 2 then stI (stI σ 58 6 (nI 3)) 58 6 (if c = nI 44 then nI 0 else nI 3)
  else stI (stI σ 58 6 (nI (st + 1))) 58 5 (c - nI 48)
set_option maxHeartbeats 2000000 in
theorem sm_go {Γ : Gm} {σ : Mm} {st many : Nat} {c : Int32} (hs : st < 5) (hm : many ≤ 6) (hm2 : st < 2 → many < 6) (e6 : σ.1 58 6 = nI st) (e4 : σ.1 58 4 = nI many) : Sp Γ 2 mX9_go [rf Γ 58, .int c] σ (aI (bI (goB st many c)) (fun σ' => σ' = goM st many c σ)) := by
  refine sp_in (L := [some (rf Γ 58), some (.int c), none, none]) rfl (Nat.le_of_ble_eq_true rfl) rfl ?_
  have e4' : ∀ v, (stI σ 58 6 v).1 58 4 = nI many := fun v => by rw [stI_ne (by omega)]; exact e4
  have e4'' : ∀ v w, (stI (stI σ 58 6 v) 58 6 w).1 58 4 = nI many := fun v w => by rw [stI_ne (by omega), stI_ne (by omega)]; exact e4
  have g2 : goB 2 many c = if c = nI 44 then decide (many < 6) else decide (c = nI 59) && decide (1 < many) := rfl
  have m2 : goM 2 many c σ = stI (stI σ 58 6 (nI 3)) 58 6 (if c = nI 44 then nI 0 else nI 3) := rfl
  refine go_iload_n dX9_go_0 rfl rfl ?_
  refine go_bipush (v := nI 48) dX9_go_1 rfl ?_
  refine go_isub dX9_go_3 ?_
  refine go_istore_n (L' := [_, _, _, _]) dX9_go_4 rfl (by decide) rfl rfl ?_
  refine go_aload_n dX9_go_5 rfl rfl ?_
  refine go_getI flX9_71 fs_58_6 dX9_go_6 ?_
  rw [e6]
  refine go_istore_n (L' := [_, _, _, _]) dX9_go_9 rfl (by decide) rfl rfl ?_
  refine go_aload_n dX9_go_10 rfl rfl ?_
  refine go_dup dX9_go_11 rfl ?_
  refine go_getI flX9_71 fs_58_6 dX9_go_12 ?_
  rw [e6]
  refine go_iconst (v := nI 1) dX9_go_15 rfl ?_
  refine go_iadd dX9_go_16 ?_
  rw [nI_add]
  refine go_putI fwX9_71 fs_58_6 dX9_go_17 ?_
  refine go_iload_n dX9_go_20 rfl rfl ?_
  refine go_if_ne (tgt := 44) dX9_go_21 (by decide) (fun c21 => ?_) (fun c21 => ?_)
  · have c21 : ¬ st = 0 := fun z => c21 (by rw [z]; rfl)
    refine go_iload_n dX9_go_44 rfl rfl ?_
    refine go_iconst (v := nI 1) dX9_go_45 rfl ?_
    refine go_icmp_ne (tgt := 79) dX9_go_46 (by decide) (fun c46 => ?_) (fun c46 => ?_)
    · have c46 : ¬ st = 1 := fun z => c46 (by rw [z])
      refine go_iload_n dX9_go_79 rfl rfl ?_
      refine go_iconst (v := nI 2) dX9_go_80 rfl ?_
      refine go_icmp_ne (tgt := 142) dX9_go_81 (by decide) (fun c81 => ?_) (fun c81 => ?_)
      · have c81 : ¬ st = 2 := fun z => c81 (by rw [z])
        refine go_aload_n dX9_go_142 rfl rfl ?_
        refine go_iload_n dX9_go_143 rfl rfl ?_
        refine go_putI fwX9_79 fs_58_5 dX9_go_144 ?_
        refine go_iload_n dX9_go_147 rfl rfl ?_
        refine go_iconst (v := nI 3) dX9_go_148 rfl ?_
        refine go_icmp_ne (tgt := 168) dX9_go_149 (by decide) (fun c149 => ?_) (fun c149 => ?_)
        · refine go_iconst (v := nI 0) dX9_go_168 rfl ?_
          refine go_zret rfl dX9_go_169 (by first | exact Or.inl rfl | exact Or.inr rfl | exact bI_01 _) ?_
          rw [nI_eq (by omega) (by omega)] at c149
          exact ⟨by rw [show goB st many c = false by unfold goB; rw [if_neg (by omega), if_neg c81]; simp [c149]]; rfl, by unfold goM; rw [if_neg c21, if_neg c46, if_neg c81]⟩
        · refine go_iload_n dX9_go_152 rfl rfl ?_
          refine go_i2l dX9_go_153 ?_
          refine go_lconst (v := 0) dX9_go_154 rfl ?_
          refine go_ldc2 (v := 9) dX9_go_155 klX9_77 ?_
          refine go_callSp csX9_64 (sm_in (lo := nI 0) (hi := nI 9) rfl rfl rfl) (by omega) rfl rfl (Nat.le_of_ble_eq_true rfl) dX9_go_158 ?_
          refine go_if_eq (tgt := 168) dX9_go_161 (by decide) (fun c161 => ?_) (fun c161 => ?_)
          · refine go_iconst (v := nI 0) dX9_go_168 rfl ?_
            refine go_zret rfl dX9_go_169 (by first | exact Or.inl rfl | exact Or.inr rfl | exact bI_01 _) ?_
            exact ⟨by rw [show goB st many c = false by unfold goB; rw [if_neg (by omega), if_neg c81, bI_eq0.mp c161, Bool.and_false]]; rfl, by unfold goM; rw [if_neg c21, if_neg c46, if_neg c81]⟩
          · refine go_iconst (v := nI 1) dX9_go_164 rfl ?_
            refine go_goto (tgt := 169) dX9_go_165 (by decide) ?_
            refine go_zret rfl dX9_go_169 (by first | exact Or.inl rfl | exact Or.inr rfl | exact bI_01 _) ?_
            rw [nI_eq (by omega) (by omega)] at c149
            exact ⟨by rw [show goB st many c = true by unfold goB; rw [if_neg (by omega), if_neg c81, bI_ne0.mp c161]; simp [c149]]; rfl, by unfold goM; rw [if_neg c21, if_neg c46, if_neg c81]⟩
      · have c81 : st = 2 := (nI_eq (by omega) (by omega)).mp c81
        subst c81
        refine go_aload_n dX9_go_84 rfl rfl ?_
        refine go_iload_n dX9_go_85 rfl rfl ?_
        refine go_bipush (v := nI 44) dX9_go_86 rfl ?_
        refine go_icmp_ne (tgt := 95) dX9_go_88 (by decide) (fun c88 => ?_) (fun c88 => ?_)
        · refine go_iconst (v := nI 3) dX9_go_95 rfl ?_
          refine go_putI fwX9_71 fs_58_6 dX9_go_96 ?_
          refine go_iload_n dX9_go_99 rfl rfl ?_
          refine go_bipush (v := nI 44) dX9_go_100 rfl ?_
          refine go_icmp_ne (tgt := 122) dX9_go_102 (by decide) (fun c102 => ?_) (fun c102 => ?_)
          · refine go_iload_n dX9_go_122 rfl rfl ?_
            refine go_bipush (v := nI 59) dX9_go_123 rfl ?_
            refine go_icmp_ne (tgt := 140) dX9_go_125 (by decide) (fun c125 => ?_) (fun c125 => ?_)
            · refine go_iconst (v := nI 0) dX9_go_140 rfl ?_
              refine go_zret rfl dX9_go_141 (by first | exact Or.inl rfl | exact Or.inr rfl | exact bI_01 _) ?_
              exact ⟨by rw [show goB 2 many c = false by rw [g2, if_neg c88]; simp [c125]]; rfl, by rw [m2, if_neg c88]⟩
            · refine go_aload_n dX9_go_128 rfl rfl ?_
              refine go_getI flX9_74 fs_58_4 dX9_go_129 ?_
              rw [e4'']
              refine go_iconst (v := nI 1) dX9_go_132 rfl ?_
              refine go_icmp_le (tgt := 140) dX9_go_133 (by decide) (fun c133 => ?_) (fun c133 => ?_)
              · refine go_iconst (v := nI 0) dX9_go_140 rfl ?_
                refine go_zret rfl dX9_go_141 (by first | exact Or.inl rfl | exact Or.inr rfl | exact bI_01 _) ?_
                rw [nI_leI (by omega) (by omega)] at c133
                exact ⟨by rw [show goB 2 many c = false by rw [g2, if_neg c88]; simp; omega]; rfl, by rw [m2, if_neg c88]⟩
              · refine go_iconst (v := nI 1) dX9_go_136 rfl ?_
                refine go_goto (tgt := 141) dX9_go_137 (by decide) ?_
                refine go_zret rfl dX9_go_141 (by first | exact Or.inl rfl | exact Or.inr rfl | exact bI_01 _) ?_
                rw [nI_leI (by omega) (by omega)] at c133
                exact ⟨by rw [show goB 2 many c = true by rw [g2, if_neg c88]; simp [c125]; omega]; rfl, by rw [m2, if_neg c88]⟩
          · refine go_aload_n dX9_go_105 rfl rfl ?_
            refine go_getI flX9_74 fs_58_4 dX9_go_106 ?_
            rw [e4'']
            refine go_bipush (v := nI 6) dX9_go_109 rfl ?_
            refine go_icmp_ge (tgt := 118) dX9_go_111 (by decide) (fun c111 => ?_) (fun c111 => ?_)
            · refine go_iconst (v := nI 0) dX9_go_118 rfl ?_
              refine go_goto (tgt := 141) dX9_go_119 (by decide) ?_
              refine go_zret rfl dX9_go_141 (by first | exact Or.inl rfl | exact Or.inr rfl | exact bI_01 _) ?_
              exact absurd c102 c88
            · refine go_iconst (v := nI 1) dX9_go_114 rfl ?_
              refine go_goto (tgt := 141) dX9_go_115 (by decide) ?_
              refine go_zret rfl dX9_go_141 (by first | exact Or.inl rfl | exact Or.inr rfl | exact bI_01 _) ?_
              exact absurd c102 c88
        · refine go_iconst (v := nI 0) dX9_go_91 rfl ?_
          refine go_goto (tgt := 96) dX9_go_92 (by decide) ?_
          refine go_putI fwX9_71 fs_58_6 dX9_go_96 ?_
          refine go_iload_n dX9_go_99 rfl rfl ?_
          refine go_bipush (v := nI 44) dX9_go_100 rfl ?_
          refine go_icmp_ne (tgt := 122) dX9_go_102 (by decide) (fun c102 => ?_) (fun c102 => ?_)
          · refine go_iload_n dX9_go_122 rfl rfl ?_
            refine go_bipush (v := nI 59) dX9_go_123 rfl ?_
            refine go_icmp_ne (tgt := 140) dX9_go_125 (by decide) (fun c125 => ?_) (fun c125 => ?_)
            · refine go_iconst (v := nI 0) dX9_go_140 rfl ?_
              refine go_zret rfl dX9_go_141 (by first | exact Or.inl rfl | exact Or.inr rfl | exact bI_01 _) ?_
              exact absurd c88 c102
            · refine go_aload_n dX9_go_128 rfl rfl ?_
              refine go_getI flX9_74 fs_58_4 dX9_go_129 ?_
              rw [e4'']
              refine go_iconst (v := nI 1) dX9_go_132 rfl ?_
              refine go_icmp_le (tgt := 140) dX9_go_133 (by decide) (fun c133 => ?_) (fun c133 => ?_)
              · refine go_iconst (v := nI 0) dX9_go_140 rfl ?_
                refine go_zret rfl dX9_go_141 (by first | exact Or.inl rfl | exact Or.inr rfl | exact bI_01 _) ?_
                exact absurd c88 c102
              · refine go_iconst (v := nI 1) dX9_go_136 rfl ?_
                refine go_goto (tgt := 141) dX9_go_137 (by decide) ?_
                refine go_zret rfl dX9_go_141 (by first | exact Or.inl rfl | exact Or.inr rfl | exact bI_01 _) ?_
                exact absurd c88 c102
          · refine go_aload_n dX9_go_105 rfl rfl ?_
            refine go_getI flX9_74 fs_58_4 dX9_go_106 ?_
            rw [e4'']
            refine go_bipush (v := nI 6) dX9_go_109 rfl ?_
            refine go_icmp_ge (tgt := 118) dX9_go_111 (by decide) (fun c111 => ?_) (fun c111 => ?_)
            · refine go_iconst (v := nI 0) dX9_go_118 rfl ?_
              refine go_goto (tgt := 141) dX9_go_119 (by decide) ?_
              refine go_zret rfl dX9_go_141 (by first | exact Or.inl rfl | exact Or.inr rfl | exact bI_01 _) ?_
              rw [nI_leI (by omega) (by omega)] at c111
              exact ⟨by rw [show goB 2 many c = false by rw [g2, if_pos c88]; simp; omega]; rfl, by rw [m2, if_pos c88]⟩
            · refine go_iconst (v := nI 1) dX9_go_114 rfl ?_
              refine go_goto (tgt := 141) dX9_go_115 (by decide) ?_
              refine go_zret rfl dX9_go_141 (by first | exact Or.inl rfl | exact Or.inr rfl | exact bI_01 _) ?_
              rw [nI_leI (by omega) (by omega)] at c111
              exact ⟨by rw [show goB 2 many c = true by rw [g2, if_pos c88]; simp; omega]; rfl, by rw [m2, if_pos c88]⟩
    · have c46 : st = 1 := (nI_eq (by omega) (by omega)).mp c46
      subst c46
      refine go_aload_n dX9_go_49 rfl rfl ?_
      refine go_getR flX9_16 fs_58_3 dX9_go_50 ?_
      refine go_aload_n dX9_go_53 rfl rfl ?_
      refine go_getI flX9_74 fs_58_4 dX9_go_54 ?_
      rw [e4']
      refine go_iload_n dX9_go_57 rfl rfl ?_
      refine go_iast many rfl as_61 (hm2 (by omega)) (by decide) dX9_go_58 ?_
      refine go_aload_n dX9_go_59 rfl rfl ?_
      refine go_dup dX9_go_60 rfl ?_
      refine go_getI flX9_74 fs_58_4 dX9_go_61 ?_
      rw [stI_ne (by omega), e4']
      refine go_iconst (v := nI 1) dX9_go_64 rfl ?_
      refine go_iadd dX9_go_65 ?_
      rw [nI_add]
      refine go_putI fwX9_74 fs_58_4 dX9_go_66 ?_
      refine go_iload_n dX9_go_69 rfl rfl ?_
      refine go_i2l dX9_go_70 ?_
      refine go_lconst (v := 1) dX9_go_71 rfl ?_
      refine go_ldc2 (v := 9) dX9_go_72 klX9_77 ?_
      refine go_callSp csX9_64 (sm_in (lo := nI 1) (hi := nI 9) rfl rfl rfl) (by omega) rfl rfl (Nat.le_of_ble_eq_true rfl) dX9_go_75 ?_
      refine go_zret rfl dX9_go_78 (by first | exact Or.inl rfl | exact Or.inr rfl | exact bI_01 _) ?_
      exact ⟨rfl, rfl⟩
  · have c21 : st = 0 := (nI_z (by omega)).mp c21
    subst c21
    refine go_aload_n dX9_go_24 rfl rfl ?_
    refine go_getR flX9_13 fs_58_2 dX9_go_25 ?_
    refine go_aload_n dX9_go_28 rfl rfl ?_
    refine go_getI flX9_74 fs_58_4 dX9_go_29 ?_
    rw [e4']
    refine go_iload_n dX9_go_32 rfl rfl ?_
    refine go_iast many rfl as_60 (hm2 (by omega)) (by decide) dX9_go_33 ?_
    refine go_iload_n dX9_go_34 rfl rfl ?_
    refine go_i2l dX9_go_35 ?_
    refine go_lconst (v := 1) dX9_go_36 rfl ?_
    refine go_ldc2 (v := 9) dX9_go_37 klX9_77 ?_
    refine go_callSp csX9_64 (sm_in (lo := nI 1) (hi := nI 9) rfl rfl rfl) (by omega) rfl rfl (Nat.le_of_ble_eq_true rfl) dX9_go_40 ?_
    refine go_zret rfl dX9_go_43 (by first | exact Or.inl rfl | exact Or.inr rfl | exact bI_01 _) ?_
    exact ⟨rfl, rfl⟩
/-- behind k good letters -/
def GI (σ : Mm) (pg : Nat → Int32) (k : Nat) : Prop := σ.1 58 4 = nI ((k + 1) / 3) ∧ σ.1 58 6 = nI (stO pg k) ∧ (∀ d, d < (k + 1) / 3 → σ.1 60 d = pg (3 * d) - nI 48 ∧ σ.1 61 d = pg (3 * d + 1) - nI 48) ∧ (stO pg k = 1 → σ.1 60 ((k + 1) / 3) = pg (3 * ((k + 1) / 3)) - nI 48) ∧ (stO pg k = 4 → σ.1 58 5 = pg (k - 1) - nI 48)
theorem dg_59 {lo : Nat} {c : Int32} (h : dg lo c = true) : c ≠ nI 59 := by
  intro e
  subst e
  unfold dg at h
  simp only [Bool.and_eq_true, decide_eq_true_eq] at h
  exact absurd h.2 (by decide)
/-- what good letters are like -/
theorem good_facts {pg : Nat → Int32} {k : Nat} (hk : k < 22) (hg : ∀ j, j < k → gdB pg j = true) :
    (0 < k ∧ pg (k - 1) = nI 59 → k % 3 = 0 ∧ ¬ (1 < k ∧ pg (k - 2) = nI 59)) ∧ (1 < k ∧ pg (k - 2) = nI 59 → k % 3 = 1 ∧ ¬ (0 < k ∧ pg (k - 1) = nI 59)) ∧ (¬ (0 < k ∧ pg (k - 1) = nI 59) → ¬ (1 < k ∧ pg (k - 2) = nI 59) → (k + 1) / 3 ≤ 6 ∧ (k % 3 < 2 → (k + 1) / 3 < 6)) ∧ (k + 1) / 3 ≤ 6 := by
  have hs := good_semi (by omega) hg
  have key : ∀ m, m < k → m % 3 = 2 → (¬ pg m = nI 59 → ¬ (0 < m ∧ pg (m - 1) = nI 59) → ¬ (1 < m ∧ pg (m - 2) = nI 59) → m / 3 + 1 < 6) := by
    intro m hm h3 h59 n1 n2
    have h := hg m hm
    unfold gdB at h
    rw [if_neg n1, if_neg n2, if_neg (by omega)] at h
    by_cases q : pg m = nI 44
    · rw [if_pos q] at h; simpa using h
    · rw [if_neg q] at h
      simp only [Bool.and_eq_true, decide_eq_true_eq] at h
      exact absurd h.1 h59
  have top : (k + 1) / 3 ≤ 6 := by
    by_cases q : (k + 1) / 3 ≤ 6
    · exact q
    · exfalso
      by_cases z : ∃ j, j + 2 < k ∧ pg j = nI 59
      · obtain ⟨j, h1, h2⟩ := z
        have := (hs j (by omega) h2).2
        omega
      · have h1 := hg 17 (by omega)
        have hns : ∀ j, j + 2 < k → pg j ≠ nI 59 := fun j h1 h2 => z ⟨j, h1, h2⟩
        have := key 17 (by omega) (by omega) (hns 17 (by omega)) (fun y => hns 16 (by omega) y.2) (fun y => hns 15 (by omega) y.2)
        omega
  refine ⟨fun h => ?_, fun h => ?_, fun n1 n2 => ⟨top, fun h3 => ?_⟩, top⟩
  · have := (hs (k - 1) (by omega) h.2).1
    refine ⟨by omega, fun z => ?_⟩
    have := (hs (k - 2) (by omega) z.2).1
    omega
  · have := (hs (k - 2) (by omega) h.2).1
    refine ⟨by omega, fun z => ?_⟩
    have := (hs (k - 1) (by omega) z.2).1
    omega
  · by_cases q : (k + 1) / 3 < 6
    · exact q
    · exfalso
      have hns : ∀ j, j < k → pg j ≠ nI 59 := fun j h1 h2 => by
        have := (hs j h1 h2).2
        by_cases y : j = k - 1
        · subst y; exact n1 ⟨by omega, h2⟩
        · have y2 : j = k - 2 := by omega
          subst y2; exact n2 ⟨by omega, h2⟩
      have := key 17 (by omega) (by omega) (hns 17 (by omega)) (fun y => hns 16 (by omega) y.2) (fun y => hns 15 (by omega) y.2)
      omega
theorem stO_lt {pg : Nat → Int32} {k : Nat} : stO pg k < 5 := by
  unfold stO
  split
  · omega
  · split
    · omega
    · omega
theorem goB_gd {pg : Nat → Int32} {k : Nat} (hk : k < 22) (hg : ∀ j, j < k → gdB pg j = true) : goB (stO pg k) ((k + 1) / 3) (pg k) = gdB pg k := by
  obtain ⟨f1, f2, f3, -⟩ := good_facts hk hg
  unfold gdB stO
  by_cases h1 : 0 < k ∧ pg (k - 1) = nI 59
  · rw [if_pos h1, if_pos h1]
    show (decide (3 = 3) && inR (nI 0) (nI 9) (pg k - nI 48)) = _
    rw [in_dg (by omega)]
    simp
  · rw [if_neg h1, if_neg h1]
    by_cases h2 : 1 < k ∧ pg (k - 2) = nI 59
    · rw [if_pos h2, if_pos h2]
      show (decide (4 = 3) && inR (nI 0) (nI 9) (pg k - nI 48)) = _
      simp
    · rw [if_neg h2, if_neg h2]
      unfold goB
      by_cases h3 : k % 3 < 2
      · rw [if_pos h3, if_pos h3, in_dg (by omega)]
      · rw [if_neg h3, if_neg h3, if_pos (by omega), show (k + 1) / 3 = k / 3 + 1 by omega]
        rfl
