/-! the model: minds, at once's check -/
set_option maxHeartbeats 4000000 in
theorem lp_mindM2 {Γ : Gm} {σ : Mm} {P : Pb} {f n r : Nat} {h : Nat → Int32} (hP : MP σ P) (hB : BY σ P) (hk : Pok P) (hf : f < pG P) (hr : Rok P h) (hfu : Full P h) (hF : Fea P h)
    (next : ∀ σ', (mr P f h (pG P)).2 = true → Rw σ' 67 P (mr P f h (pG P)).1 → O67 σ σ' → Go Γ 5 mX9_mindsOf (aI (rs P f n (mr P f h (pG P)).1 (r + 1)) (O67 σ)) 11 [some (rf Γ 58), some (.int (nI f)), some (.int (nI (r + 1))), none, none, none, none, none] [] σ') :
    ∀ (m k : Nat) (σ' : Mm), k + m = pG P → Rw σ' 67 P (mr P f h k).1 → O67 σ σ' → Go Γ 5 mX9_mindsOf (aI (rs P f (n + 1) h r) (O67 σ)) 22 [some (rf Γ 58), some (.int (nI f)), some (.int (nI r)), some (.int (bI (mr P f h k).2)), some (.int (nI k)), none, none, none] [] σ' := by
  have hD := hP.1.2
  have hG := hP.2.1.2
  intro m
  induction m with
  | zero =>
    intro k σ' hk1 hR hO
    have e : k = pG P := by omega
    subst e
    refine go_iload dX9_mindsOf_22 rfl ?_
    refine go_aload_n dX9_mindsOf_24 rfl rfl ?_
    refine go_getI flX9_96 fs_58_14 dX9_mindsOf_25 ?_
    rw [(hP.om hO.om).2.1.1]
    refine go_icmp_ge (tgt := 143) dX9_mindsOf_28 (by decide) (fun c28 => ?_) (fun c28 => ?_)
    · refine go_iload_n dX9_mindsOf_143 rfl rfl ?_
      refine go_if_ne (tgt := 149) dX9_mindsOf_144 (by decide) (fun c144 => ?_) (fun c144 => ?_)
      · refine go_iinc (v := nI (r + 1)) (L' := [_, _, _, _, _, _, _, _]) dX9_mindsOf_149 rfl (nI_1 _) (by decide) rfl rfl ?_
        refine go_goto (tgt := 11) dX9_mindsOf_152 (by decide) ?_
        have e1 : rs P f (n + 1) h r = rs P f n (mr P f h (pG P)).1 (r + 1) := by conv => lhs; unfold rs; rw [if_pos (bI_ne0.mp c144)]
        rw [e1]
        exact go_sub [true, true, true, false, false, false, false, false] rfl (next σ' (bI_ne0.mp c144) hR hO)
      · refine go_iload_n dX9_mindsOf_147 rfl rfl ?_
        refine go_iret rfl dX9_mindsOf_148 ?_
        refine ⟨?_, hO⟩
        unfold rs
        rw [if_neg (by rw [bI_eq0.mp c144]; decide)]
    · exact absurd (Int32.le_refl _) c28
  | succ m ih =>
    intro k σ' hk1 hR hO
    have hk2 : k < pG P := by omega
    have hP' := hP.om hO.om
    have hB' := hB.o67 hO
    have hg := gat_lt (P := P) (f := f) (k := k) (by omega)
    have hg5 : gat P f k < 5 := by omega
    have er : nI (f + k) - nI (f + k) / nI (pG P) * nI (pG P) = nI (gat P f k) := pk_rem (by omega) (by omega) (by omega)
    obtain ⟨o1, o2, o3⟩ := mr_ok hk hG hD hf hr hfu hF k
    generalize hh : (mr P f h k).1 = h' at hR o1 o2 o3
    have hcase := row_cases o1 o2 hG hg
    have hrow := hR (gat P f k) hg
    have es : mr P f h (k + 1) = (mindR P h' (gat P f k), (mr P f h k).2 || mindB P h' (gat P f k)) := by conv => lhs; unfold mr; rw [hh]
    have yes : mindB P h' (gat P f k) = true → Go Γ 5 mX9_mindsOf (aI (rs P f (n + 1) h r) (O67 σ)) 22 [some (rf Γ 58), some (.int (nI f)), some (.int (nI r)), some (.int (nI 1)), some (.int (nI (k + 1))), none, none, none] [] (stI σ' 67 (gat P f k) (bestM P h' (gat P f k))) := by
      intro q
      have := ih (k + 1) (stI σ' 67 (gat P f k) (bestM P h' (gat P f k))) (by omega) (by
        rw [es]
        intro g hg1
        show _ = mindR P h' (gat P f k) g
        unfold mindR
        rw [if_pos q]
        by_cases z : g = gat P f k
        · subst z; rw [stI_at]; simp [upd]
        · rw [stI_ne (by omega), hR g hg1]; simp [upd, z]) hO.st
      rw [show (mr P f h (k + 1)).2 = true by rw [es, q]; simp] at this
      exact this
    have no : mindB P h' (gat P f k) = false → Go Γ 5 mX9_mindsOf (aI (rs P f (n + 1) h r) (O67 σ)) 22 [some (rf Γ 58), some (.int (nI f)), some (.int (nI r)), some (.int (bI (mr P f h k).2)), some (.int (nI (k + 1))), none, none, none] [] σ' := by
      intro q
      have := ih (k + 1) σ' (by omega) (by
        rw [es]
        intro g hg1
        show _ = mindR P h' (gat P f k) g
        unfold mindR
        rw [q]
        exact hR g hg1) hO
      rw [show (mr P f h (k + 1)).2 = (mr P f h k).2 by rw [es, q]; simp] at this
      exact this
    have t1 : ¬ nI 1 = 0 := by decide
    have t0 : nI 0 = 0 := rfl
    -- the loop's end, from 137
    have at109 : ∀ b : Bool, (mindB P h' (gat P f k) = (!b && decide (bestM P h' (gat P f k) ≠ h' (gat P f k)))) → Go Γ 5 mX9_mindsOf (aI (rs P f (n + 1) h r) (O67 σ)) 109 [some (rf Γ 58), some (.int (nI f)), some (.int (nI r)), some (.int (bI (mr P f h k).2)), some (.int (nI k)), some (.int (nI (gat P f k))), some (.int (bestM P h' (gat P f k))), some (.int (bI b))] [] σ' := by
      intro b hb
      refine go_iload dX9_mindsOf_109 rfl ?_
      refine go_if_ne (tgt := 137) dX9_mindsOf_111 (by decide) (fun c111 => ?_) (fun c111 => ?_)
      · refine go_iinc (v := nI (k + 1)) (L' := [_, _, _, _, _, _, _, _]) dX9_mindsOf_137 rfl (nI_1 _) (by decide) rfl rfl ?_
        refine go_goto (tgt := 22) dX9_mindsOf_140 (by decide) ?_
        exact go_sub [true, true, true, true, true, false, false, false] rfl (no (by rw [hb, bI_ne0.mp c111]; rfl))
      · refine go_iload dX9_mindsOf_114 rfl ?_
        refine go_aload_n dX9_mindsOf_116 rfl rfl ?_
        refine go_getR flX9_34 fs_58_21 dX9_mindsOf_117 ?_
        refine go_iload dX9_mindsOf_120 rfl ?_
        refine go_iald (gat P f k) rfl as_67 hg5 (by decide) dX9_mindsOf_122 ?_
        rw [hrow]
        refine go_icmp_eq (tgt := 137) dX9_mindsOf_123 (by decide) (fun c123 => ?_) (fun c123 => ?_)
        · refine go_iinc (v := nI (k + 1)) (L' := [_, _, _, _, _, _, _, _]) dX9_mindsOf_137 rfl (nI_1 _) (by decide) rfl rfl ?_
          refine go_goto (tgt := 22) dX9_mindsOf_140 (by decide) ?_
          exact go_sub [true, true, true, true, true, false, false, false] rfl (no (by rw [hb]; simp [c123]))
        · refine go_aload_n dX9_mindsOf_126 rfl rfl ?_
          refine go_getR flX9_34 fs_58_21 dX9_mindsOf_127 ?_
          refine go_iload dX9_mindsOf_130 rfl ?_
          refine go_iload dX9_mindsOf_132 rfl ?_
          refine go_iast (gat P f k) rfl as_67 hg5 (by decide) dX9_mindsOf_134 ?_
          refine go_iconst (v := nI 1) dX9_mindsOf_135 rfl ?_
          refine go_istore_n (L' := [_, _, _, _, _, _, _, _]) dX9_mindsOf_136 rfl (by decide) rfl rfl ?_
          refine go_iinc (v := nI (k + 1)) (L' := [_, _, _, _, _, _, _, _]) dX9_mindsOf_137 rfl (nI_1 _) (by decide) rfl rfl ?_
          refine go_goto (tgt := 22) dX9_mindsOf_140 (by decide) ?_
          exact go_sub [true, true, true, true, true, false, false, false] rfl (yes (by rw [hb, bI_eq0.mp c111]; simp [c123]))
    refine go_iload dX9_mindsOf_22 rfl ?_
    refine go_aload_n dX9_mindsOf_24 rfl rfl ?_
    refine go_getI flX9_96 fs_58_14 dX9_mindsOf_25 ?_
    rw [hP'.2.1.1]
    refine go_icmp_ge (tgt := 143) dX9_mindsOf_28 (by decide) (fun c28 => ?_) (fun c28 => ?_)
    · exact absurd c28 (nI_ge (by omega) (by omega))
    · refine go_iload_n dX9_mindsOf_31 rfl rfl ?_
      refine go_iload dX9_mindsOf_32 rfl ?_
      refine go_iadd dX9_mindsOf_34 ?_
      rw [nI_add]
      refine go_aload_n dX9_mindsOf_35 rfl rfl ?_
      refine go_getI flX9_96 fs_58_14 dX9_mindsOf_36 ?_
      rw [hP'.2.1.1]
      refine go_irem dX9_mindsOf_39 (nI_ne0 (by omega) (by omega)) ?_
      rw [er]
      refine go_istore (L' := [_, _, _, _, _, _, _, _]) dX9_mindsOf_40 (by decide) rfl rfl ?_
      refine go_aload_n dX9_mindsOf_42 rfl rfl ?_
      refine go_aload_n dX9_mindsOf_43 rfl rfl ?_
      refine go_getR flX9_34 fs_58_21 dX9_mindsOf_44 ?_
      refine go_iload dX9_mindsOf_47 rfl ?_
      refine go_callVp cvX9_159 os_58 (sm_bestFor isR67 hP' hB' hR hg) (by omega) rfl rfl (Nat.le_of_ble_eq_true rfl) dX9_mindsOf_49 ?_
      refine go_istore (L' := [_, _, _, _, _, _, _, _]) dX9_mindsOf_52 (by decide) rfl rfl ?_
      refine go_iload dX9_mindsOf_54 rfl ?_
      refine go_iconst (v := (-1)) dX9_mindsOf_56 rfl ?_
      refine go_icmp_eq (tgt := 102) dX9_mindsOf_57 (by decide) (fun c57 => ?_) (fun c57 => ?_)
      · refine go_iconst (v := nI 1) dX9_mindsOf_102 rfl ?_
        refine go_goto (tgt := 107) dX9_mindsOf_103 (by decide) ?_
        refine go_istore (L' := [_, _, _, _, _, _, _, _]) dX9_mindsOf_107 (by decide) rfl rfl ?_
        exact at109 true (by unfold mindB; simp [c57])
      · refine go_aload_n dX9_mindsOf_60 rfl rfl ?_
        refine go_getR flX9_34 fs_58_21 dX9_mindsOf_61 ?_
        refine go_iload dX9_mindsOf_64 rfl ?_
        refine go_iald (gat P f k) rfl as_67 hg5 (by decide) dX9_mindsOf_66 ?_
        rw [hrow]
        refine go_if_lt (tgt := 106) dX9_mindsOf_67 (by decide) (fun c67 => ?_) (fun c67 => ?_)
        · refine go_iconst (v := nI 0) dX9_mindsOf_106 rfl ?_
          refine go_istore (L' := [_, _, _, _, _, _, _, _]) dX9_mindsOf_107 (by decide) rfl rfl ?_
          exact at109 false (by unfold mindB; simp [c57, Int32.not_le.mpr c67])
        · obtain ⟨d, hd, e⟩ : ∃ d, d < pD P ∧ h' (gat P f k) = nI d := by
            rcases hcase with z | z
            · rw [z] at c67; exact absurd (by decide) c67
            · exact z
          obtain ⟨d3, hd3, -, e3⟩ := (best_range (P := P) (h := h') (g := gat P f k)).resolve_left c57
          have z0 : 0 ≤ h' (gat P f k) := Int32.not_lt.mp c67
          refine go_aload_n dX9_mindsOf_70 rfl rfl ?_
          refine go_aload_n dX9_mindsOf_71 rfl rfl ?_
          refine go_getR flX9_34 fs_58_21 dX9_mindsOf_72 ?_
          refine go_iload dX9_mindsOf_75 rfl ?_
          refine go_aload_n dX9_mindsOf_77 rfl rfl ?_
          refine go_getR flX9_34 fs_58_21 dX9_mindsOf_78 ?_
          refine go_iload dX9_mindsOf_81 rfl ?_
          refine go_iald (gat P f k) rfl as_67 hg5 (by decide) dX9_mindsOf_83 ?_
          rw [hrow]
          refine go_callVp cvX9_152 os_58 (sm_valueOf isR67 hP' hB' hR hg hd e) (by omega) rfl rfl (Nat.le_of_ble_eq_true rfl) dX9_mindsOf_84 ?_
          refine go_aload_n dX9_mindsOf_87 rfl rfl ?_
          refine go_aload_n dX9_mindsOf_88 rfl rfl ?_
          refine go_getR flX9_34 fs_58_21 dX9_mindsOf_89 ?_
          refine go_iload dX9_mindsOf_92 rfl ?_
          refine go_iload dX9_mindsOf_94 rfl ?_
          refine go_callVp cvX9_152 os_58 (sm_valueOf isR67 hP' hB' hR hg hd3 e3) (by omega) rfl rfl (Nat.le_of_ble_eq_true rfl) dX9_mindsOf_96 ?_
          refine go_icmp_lt (tgt := 106) dX9_mindsOf_99 (by decide) (fun c99 => ?_) (fun c99 => ?_)
          · refine go_iconst (v := nI 0) dX9_mindsOf_106 rfl ?_
            refine go_istore (L' := [_, _, _, _, _, _, _, _]) dX9_mindsOf_107 (by decide) rfl rfl ?_
            exact at109 false (by unfold mindB; rw [e3, nI_clamp (by omega), e, nI_clamp (by omega)]; simp [Int32.not_le.mpr c99]; exact fun _ => nI_neg1 (by omega))
          · refine go_iconst (v := nI 1) dX9_mindsOf_102 rfl ?_
            refine go_goto (tgt := 107) dX9_mindsOf_103 (by decide) ?_
            refine go_istore (L' := [_, _, _, _, _, _, _, _]) dX9_mindsOf_107 (by decide) rfl rfl ?_
            exact at109 true (by unfold mindB; rw [e3, nI_clamp (by omega), e, nI_clamp (by omega)]; simp [Int32.not_lt.mp c99, nI_pos' (show d < 2 ^ 31 by omega)])
set_option maxHeartbeats 1000000 in
theorem lp_mindM1 {Γ : Gm} {σ : Mm} {P : Pb} {f : Nat} (hP : MP σ P) (hB : BY σ P) (hk : Pok P) (hf : f < pG P) : ∀ (n r : Nat) (h : Nat → Int32) (σ' : Mm), r + n = 21 → Rw σ' 67 P h → Rok P h → Full P h → Fea P h → O67 σ σ' → Go Γ 5 mX9_mindsOf (aI (rs P f n h r) (O67 σ)) 11 [some (rf Γ 58), some (.int (nI f)), some (.int (nI r)), none, none, none, none, none] [] σ' := by
  have hD := hP.1.2
  have hG := hP.2.1.2
  intro n
  induction n with
  | zero =>
    intro r h σ' hr hR h1 h2 h3 hO
    have e : r = 21 := by omega
    subst e
    refine go_iload_n dX9_mindsOf_11 rfl rfl ?_
    refine go_bipush (v := nI 20) dX9_mindsOf_12 rfl ?_
    refine go_icmp_gt (tgt := 155) dX9_mindsOf_14 (by decide) (fun c14 => ?_) (fun c14 => ?_)
    · refine go_iconst (v := (-1)) dX9_mindsOf_155 rfl ?_
      refine go_iret rfl dX9_mindsOf_156 ?_
      exact ⟨rfl, hO⟩
    · exact absurd (by decide) c14
  | succ n ih =>
    intro r h σ' hr hR h1 h2 h3 hO
    obtain ⟨o1, o2, o3⟩ := mr_ok hk hG hD hf h1 h2 h3 (pG P)
    refine go_iload_n dX9_mindsOf_11 rfl rfl ?_
    refine go_bipush (v := nI 20) dX9_mindsOf_12 rfl ?_
    refine go_icmp_gt (tgt := 155) dX9_mindsOf_14 (by decide) (fun c14 => ?_) (fun c14 => ?_)
    · exact absurd c14 (nI_nlt (by omega) (by omega))
    · refine go_iconst (v := nI 0) dX9_mindsOf_17 rfl ?_
      refine go_istore_n (L' := [_, _, _, _, _, _, _, _]) dX9_mindsOf_18 rfl (by decide) rfl rfl ?_
      refine go_iconst (v := nI 0) dX9_mindsOf_19 rfl ?_
      refine go_istore (L' := [_, _, _, _, _, _, _, _]) dX9_mindsOf_20 (by decide) rfl rfl ?_
      exact lp_mindM2 hP hB hk hf h1 h2 h3 (fun σ2 _ t o => ih (r + 1) _ σ2 (by omega) t o1 o2 o3 o) (pG P) 0 σ' (by omega) hR hO
set_option maxHeartbeats 1000000 in
theorem sm_mindsOf {Γ : Gm} {σ : Mm} {P : Pb} {f : Nat} (hS : MS σ P) (hk : Pok P) (hf : f < pG P) : Sp Γ 5 mX9_mindsOf [rf Γ 58, .int (nI f)] σ (aI (minM P f) (OM σ)) := by
  have hD := hS.1.1.2
  have hG := hS.1.2.1.2
  refine sp_in (L := [some (rf Γ 58), some (.int (nI f)), none, none, none, none, none, none]) rfl (Nat.le_of_ble_eq_true rfl) rfl ?_
  refine go_aload_n dX9_mindsOf_0 rfl rfl ?_
  refine go_callVv cvX9_156 os_58 (sm_asItIs hS) (by omega) rfl rfl (Nat.le_of_ble_eq_true rfl) dX9_mindsOf_1 (fun σ1 q1 => ?_)
  refine go_aload_n dX9_mindsOf_4 rfl rfl ?_
  refine go_iload_n dX9_mindsOf_5 rfl rfl ?_
  refine go_callVv cvX9_165 os_58 (sm_lay (hS.1.om q1.2.1) q1.1 hf) (by omega) rfl rfl (Nat.le_of_ble_eq_true rfl) dX9_mindsOf_6 (fun σ2 q2 => ?_)
  refine go_iconst (v := nI 1) dX9_mindsOf_9 rfl ?_
  refine go_istore_n (L' := [_, _, _, _, _, _, _, _]) dX9_mindsOf_10 rfl (by decide) rfl rfl ?_
  exact go_mono (fun v σ' h => ⟨h.1, q1.2.1.trans h.2.om⟩) (lp_mindM1 (hS.1.om q1.2.1) q1.1 hk hf 20 1 (lay P f) σ2 rfl q2.1 (lay_ok hf) (lay_full hf hD) (layR_fea hf hk hG hD _) q2.2)
set_option maxHeartbeats 2000000 in
theorem lp_atM2 {Γ : Gm} {σ : Mm} {P : Pb} {h : Nat → Int32} {g d0 : Nat} {Q : Option Value → Mm → Prop} (hP : MP σ P) (hB : BY σ P) (hR : Rw σ 67 P h) (hg : g < pG P) (hd0 : d0 < pD P) (e0 : h g = nI d0)
    (next : Go Γ 3 mX9_isAtOnce Q 109 [some (rf Γ 58), some (.int (bI (mayM P h g d0 && allB (conE P h g) (pD P)))), some (.int (nI g)), none] [] σ) :
    ∀ (m d : Nat), d + m = pD P → Go Γ 3 mX9_isAtOnce Q 34 [some (rf Γ 58), some (.int (bI (mayM P h g d0 && allB (conE P h g) d))), some (.int (nI g)), some (.int (nI d))] [] σ := by
  have hD := hP.1.2
  have hG := hP.2.1.2
  have hrow := hR g hg
  intro m
  induction m with
  | zero =>
    intro d hd
    have e : d = pD P := by omega
    subst e
    refine go_iload_n dX9_isAtOnce_34 rfl rfl ?_
    refine go_aload_n dX9_isAtOnce_35 rfl rfl ?_
    refine go_getI flX9_90 fs_58_7 dX9_isAtOnce_36 ?_
    rw [hP.1.1]
    refine go_icmp_ge (tgt := 109) dX9_isAtOnce_39 (by decide) (fun c39 => ?_) (fun c39 => ?_)
    · exact go_sub [true, true, true, false] rfl next
    · exact absurd (Int32.le_refl _) c39
  | succ m ih =>
    intro d hd
    have hd1 : d < pD P := by omega
    have stp := ih (d + 1) (by omega)
    have fin : ∀ b : Bool, (mayM P h g d0 && allB (conE P h g) d) = true → conE P h g d = b → Go Γ 3 mX9_isAtOnce Q 34 [some (rf Γ 58), some (.int (bI b)), some (.int (nI g)), some (.int (nI (d + 1)))] [] σ := by
      intro b h1 h2
      rw [show (mayM P h g d0 && allB (conE P h g) (d + 1)) = b by
        show (mayM P h g d0 && (allB (conE P h g) d && conE P h g d)) = b
        rw [← Bool.and_assoc, h1, Bool.true_and, h2]] at stp
      exact stp
    refine go_iload_n dX9_isAtOnce_34 rfl rfl ?_
    refine go_aload_n dX9_isAtOnce_35 rfl rfl ?_
    refine go_getI flX9_90 fs_58_7 dX9_isAtOnce_36 ?_
    rw [hP.1.1]
    refine go_icmp_ge (tgt := 109) dX9_isAtOnce_39 (by decide) (fun c39 => ?_) (fun c39 => ?_)
    · exact absurd c39 (nI_ge (by omega) (by omega))
    · refine go_iload_n dX9_isAtOnce_42 rfl rfl ?_
      refine go_if_eq (tgt := 109) dX9_isAtOnce_43 (by decide) (fun c43 => ?_) (fun c43 => ?_)
      · have hz : (mayM P h g d0 && allB (conE P h g) (pD P)) = false := by
          have := bI_eq0.mp c43
          cases hm : mayM P h g d0 with
          | false => rfl
          | true =>
            rw [hm, Bool.true_and] at this
            rw [Bool.true_and]
            cases ha : allB (conE P h g) (pD P) with
            | false => rfl
            | true => rw [allB_iff.mpr (fun k hk => allB_iff.mp ha k (by omega))] at this; cases this
        rw [hz] at next
        rw [bI_eq0.mp c43]
        exact go_sub [true, true, true, false] rfl next
      · refine go_iload_n dX9_isAtOnce_46 rfl rfl ?_
        refine go_aload_n dX9_isAtOnce_47 rfl rfl ?_
        refine go_getR flX9_34 fs_58_21 dX9_isAtOnce_48 ?_
        refine go_iload_n dX9_isAtOnce_51 rfl rfl ?_
        refine go_iald (g) rfl as_67 (by omega) (by decide) dX9_isAtOnce_52 ?_
        rw [hrow]
        refine go_icmp_eq (tgt := 97) dX9_isAtOnce_53 (by decide) (fun c53 => ?_) (fun c53 => ?_)
        · refine go_iconst (v := nI 1) dX9_isAtOnce_97 rfl ?_
          refine go_goto (tgt := 102) dX9_isAtOnce_98 (by decide) ?_
          refine go_istore_n (L' := [_, _, _, _]) dX9_isAtOnce_102 rfl (by decide) rfl rfl ?_
          refine go_iinc (v := nI (d + 1)) (L' := [_, _, _, _]) dX9_isAtOnce_103 rfl (nI_1 _) (by decide) rfl rfl ?_
          refine go_goto (tgt := 34) dX9_isAtOnce_106 (by decide) ?_
          exact fin true (bI_ne0.mp c43) (by unfold conE; simp [c53])
        · refine go_aload_n dX9_isAtOnce_56 rfl rfl ?_
          refine go_aload_n dX9_isAtOnce_57 rfl rfl ?_
          refine go_getR flX9_34 fs_58_21 dX9_isAtOnce_58 ?_
          refine go_iload_n dX9_isAtOnce_61 rfl rfl ?_
          refine go_iload_n dX9_isAtOnce_62 rfl rfl ?_
          refine go_callVp cvX9_148 os_58 (sm_mayHave isR67 hP hR hg hd1 rfl) (by omega) rfl rfl (Nat.le_of_ble_eq_true rfl) dX9_isAtOnce_63 ?_
          refine go_if_eq (tgt := 97) dX9_isAtOnce_66 (by decide) (fun c66 => ?_) (fun c66 => ?_)
          · refine go_iconst (v := nI 1) dX9_isAtOnce_97 rfl ?_
            refine go_goto (tgt := 102) dX9_isAtOnce_98 (by decide) ?_
            refine go_istore_n (L' := [_, _, _, _]) dX9_isAtOnce_102 rfl (by decide) rfl rfl ?_
            refine go_iinc (v := nI (d + 1)) (L' := [_, _, _, _]) dX9_isAtOnce_103 rfl (nI_1 _) (by decide) rfl rfl ?_
            refine go_goto (tgt := 34) dX9_isAtOnce_106 (by decide) ?_
            exact fin true (bI_ne0.mp c43) (by unfold conE; simp [bI_eq0.mp c66])
          · refine go_aload_n dX9_isAtOnce_69 rfl rfl ?_
            refine go_aload_n dX9_isAtOnce_70 rfl rfl ?_
            refine go_getR flX9_34 fs_58_21 dX9_isAtOnce_71 ?_
            refine go_iload_n dX9_isAtOnce_74 rfl rfl ?_
            refine go_iload_n dX9_isAtOnce_75 rfl rfl ?_
            refine go_callVp cvX9_152 os_58 (sm_valueOf isR67 hP hB hR hg hd1 rfl) (by omega) rfl rfl (Nat.le_of_ble_eq_true rfl) dX9_isAtOnce_76 ?_
            refine go_aload_n dX9_isAtOnce_79 rfl rfl ?_
            refine go_aload_n dX9_isAtOnce_80 rfl rfl ?_
            refine go_getR flX9_34 fs_58_21 dX9_isAtOnce_81 ?_
            refine go_iload_n dX9_isAtOnce_84 rfl rfl ?_
            refine go_aload_n dX9_isAtOnce_85 rfl rfl ?_
            refine go_getR flX9_34 fs_58_21 dX9_isAtOnce_86 ?_
            refine go_iload_n dX9_isAtOnce_89 rfl rfl ?_
            refine go_iald (g) rfl as_67 (by omega) (by decide) dX9_isAtOnce_90 ?_
            rw [hrow]
            refine go_callVp cvX9_152 os_58 (sm_valueOf isR67 hP hB hR hg hd0 e0) (by omega) rfl rfl (Nat.le_of_ble_eq_true rfl) dX9_isAtOnce_91 ?_
            refine go_icmp_gt (tgt := 101) dX9_isAtOnce_94 (by decide) (fun c94 => ?_) (fun c94 => ?_)
            · refine go_iconst (v := nI 0) dX9_isAtOnce_101 rfl ?_
              refine go_istore_n (L' := [_, _, _, _]) dX9_isAtOnce_102 rfl (by decide) rfl rfl ?_
              refine go_iinc (v := nI (d + 1)) (L' := [_, _, _, _]) dX9_isAtOnce_103 rfl (nI_1 _) (by decide) rfl rfl ?_
              refine go_goto (tgt := 34) dX9_isAtOnce_106 (by decide) ?_
              exact fin false (bI_ne0.mp c43) (by unfold conE; rw [e0] at c53; rw [e0, nI_clamp (by omega)]; simp [c53, bI_ne0.mp c66, c94])
            · refine go_iconst (v := nI 1) dX9_isAtOnce_97 rfl ?_
              refine go_goto (tgt := 102) dX9_isAtOnce_98 (by decide) ?_
              refine go_istore_n (L' := [_, _, _, _]) dX9_isAtOnce_102 rfl (by decide) rfl rfl ?_
              refine go_iinc (v := nI (d + 1)) (L' := [_, _, _, _]) dX9_isAtOnce_103 rfl (nI_1 _) (by decide) rfl rfl ?_
              refine go_goto (tgt := 34) dX9_isAtOnce_106 (by decide) ?_
              exact fin true (bI_ne0.mp c43) (by unfold conE; rw [e0, nI_clamp (by omega)]; simp [Int32.not_lt.mp c94])
set_option maxHeartbeats 2000000 in
theorem lp_atM1 {Γ : Gm} {σ : Mm} {P : Pb} {h : Nat → Int32} (hP : MP σ P) (hB : BY σ P) (hR : Rw σ 67 P h) (hn : Dn P h (pG P)) : ∀ (m g : Nat), g + m = pG P → Go Γ 3 mX9_isAtOnce (aP (bI (goodB P h)) σ) 4 [some (rf Γ 58), some (.int (bI (allB (fun g => mayM P h g (h g).toNatClampNeg && allB (conE P h g) (pD P)) g))), some (.int (nI g)), none] [] σ := by
  have hD := hP.1.2
  have hG := hP.2.1.2
  intro m
  induction m with
  | zero =>
    intro g hg
    have e : g = pG P := by omega
    subst e
    refine go_iload_n dX9_isAtOnce_4 rfl rfl ?_
    refine go_aload_n dX9_isAtOnce_5 rfl rfl ?_
    refine go_getI flX9_96 fs_58_14 dX9_isAtOnce_6 ?_
    rw [hP.2.1.1]
    refine go_icmp_ge (tgt := 115) dX9_isAtOnce_9 (by decide) (fun c9 => ?_) (fun c9 => ?_)
    · refine go_iload_n dX9_isAtOnce_115 rfl rfl ?_
      refine go_zret rfl dX9_isAtOnce_116 (by first | exact Or.inl rfl | exact Or.inr rfl | exact bI_01 _) ?_
      exact ⟨rfl, rfl⟩
    · exact absurd (Int32.le_refl _) c9
  | succ m ih =>
    intro g hg
    have hg1 : g < pG P := by omega
    obtain ⟨d0, hd0, e0⟩ := hn g hg1
    have stp := ih (g + 1) (by omega)
    have hrow := hR g hg1
    refine go_iload_n dX9_isAtOnce_4 rfl rfl ?_
    refine go_aload_n dX9_isAtOnce_5 rfl rfl ?_
    refine go_getI flX9_96 fs_58_14 dX9_isAtOnce_6 ?_
    rw [hP.2.1.1]
    refine go_icmp_ge (tgt := 115) dX9_isAtOnce_9 (by decide) (fun c9 => ?_) (fun c9 => ?_)
    · exact absurd c9 (nI_ge (by omega) (by omega))
    · refine go_iload_n dX9_isAtOnce_12 rfl rfl ?_
      refine go_if_eq (tgt := 115) dX9_isAtOnce_13 (by decide) (fun c13 => ?_) (fun c13 => ?_)
      · refine go_iload_n dX9_isAtOnce_115 rfl rfl ?_
        refine go_zret rfl dX9_isAtOnce_116 (by first | exact Or.inl rfl | exact Or.inr rfl | exact bI_01 _) ?_
        refine ⟨?_, rfl⟩
        have := bI_eq0.mp c13
        rw [this, show goodB P h = false by
          cases ha : goodB P h with
          | false => rfl
          | true => rw [allB_iff.mpr (fun k hk => allB_iff.mp ha k (by omega))] at this; cases this]
      · refine go_aload_n dX9_isAtOnce_16 rfl rfl ?_
        refine go_aload_n dX9_isAtOnce_17 rfl rfl ?_
        refine go_getR flX9_34 fs_58_21 dX9_isAtOnce_18 ?_
        refine go_iload_n dX9_isAtOnce_21 rfl rfl ?_
        refine go_aload_n dX9_isAtOnce_22 rfl rfl ?_
        refine go_getR flX9_34 fs_58_21 dX9_isAtOnce_23 ?_
        refine go_iload_n dX9_isAtOnce_26 rfl rfl ?_
        refine go_iald (g) rfl as_67 (by omega) (by decide) dX9_isAtOnce_27 ?_
        rw [hrow]
        refine go_callVp cvX9_148 os_58 (sm_mayHave isR67 hP hR hg1 hd0 e0) (by omega) rfl rfl (Nat.le_of_ble_eq_true rfl) dX9_isAtOnce_28 ?_
        refine go_istore_n (L' := [_, _, _, _]) dX9_isAtOnce_31 rfl (by decide) rfl rfl ?_
        refine go_iconst (v := nI 0) dX9_isAtOnce_32 rfl ?_
        refine go_istore_n (L' := [_, _, _, _]) dX9_isAtOnce_33 rfl (by decide) rfl rfl ?_
        have nx : Go Γ 3 mX9_isAtOnce (aP (bI (goodB P h)) σ) 109 [some (rf Γ 58), some (.int (bI (mayM P h g d0 && allB (conE P h g) (pD P)))), some (.int (nI g)), none] [] σ := by
          refine go_iinc (v := nI (g + 1)) (L' := [_, _, _, _]) dX9_isAtOnce_109 rfl (nI_1 _) (by decide) rfl rfl ?_
          refine go_goto (tgt := 4) dX9_isAtOnce_112 (by decide) ?_
          rw [show allB (fun g => mayM P h g (h g).toNatClampNeg && allB (conE P h g) (pD P)) (g + 1) = (mayM P h g d0 && allB (conE P h g) (pD P)) by
            show (allB (fun g => mayM P h g (h g).toNatClampNeg && allB (conE P h g) (pD P)) g && (mayM P h g (h g).toNatClampNeg && allB (conE P h g) (pD P))) = _
            rw [bI_ne0.mp c13, Bool.true_and, e0, nI_clamp (by omega)]] at stp
          exact stp
        have key := lp_atM2 hP hB hR hg1 hd0 e0 nx (pD P) 0 (by omega)
        rw [show (mayM P h g d0 && allB (conE P h g) 0) = mayM P h g d0 by simp [allB]] at key
        exact key
set_option maxHeartbeats 1000000 in
theorem sm_isAtOnce {Γ : Gm} {σ : Mm} {P : Pb} {h : Nat → Int32} (hP : MP σ P) (hB : BY σ P) (hR : Rw σ 67 P h) (hn : Dn P h (pG P)) : Sp Γ 3 mX9_isAtOnce [rf Γ 58] σ (aP (bI (goodB P h)) σ) := by
  refine sp_in (L := [some (rf Γ 58), none, none, none]) rfl (Nat.le_of_ble_eq_true rfl) rfl ?_
  refine go_iconst (v := nI 1) dX9_isAtOnce_0 rfl ?_
  refine go_istore_n (L' := [_, _, _, _]) dX9_isAtOnce_1 rfl (by decide) rfl rfl ?_
  refine go_iconst (v := nI 0) dX9_isAtOnce_2 rfl ?_
  refine go_istore_n (L' := [_, _, _, _]) dX9_isAtOnce_3 rfl (by decide) rfl rfl ?_
  exact lp_atM1 hP hB hR hn (pG P) 0 (by omega)
