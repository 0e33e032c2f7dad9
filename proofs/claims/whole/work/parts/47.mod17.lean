/-! the model's digest -/
def DM (σ σ' : Mm) (X : Xs) (x : Int64) : Prop := RM σ' X ∧ FrM σ σ' ∧ σ'.2 58 = x
theorem DM.say {σ σ' : Mm} {X : Xs} {x y : Int64} (h : DM σ σ' X x) : DM σ (stL σ' 58 y) X y := ⟨h.1, ⟨h.2.1.1, fun a ha => (show (if a = 58 then y else σ'.2 a) = σ.2 a by rw [if_neg (by omega)]; exact h.2.1.2 a ha)⟩, stL_at⟩
theorem DM.om {σ σ' σ2 : Mm} {X : Xs} {x : Int64} (h : DM σ σ' X x) (ho : OM σ' σ2) : DM σ σ2 X x := ⟨h.1.om ho, h.2.1.trans ho.frm, by rw [ho.2.2 58 (by omega)]; exact h.2.2⟩
set_option maxHeartbeats 1000000 in
theorem sm_say {Γ : Gm} {σ : Mm} {x : Int64} {v : Int32} (e : σ.2 58 = x) : Sp Γ 1 mX9_say [rf Γ 58, .long v.toInt64] σ (aV (fun σ' => σ' = stL σ 58 (mixH x v))) := by
  refine sp_in (L := [some (rf Γ 58), some (.long v.toInt64), none]) rfl (Nat.le_of_ble_eq_true rfl) rfl ?_
  refine go_aload_n dX9_say_0 rfl rfl ?_
  refine go_ldc2 (v := 31) dX9_say_1 klX9_237 ?_
  refine go_aload_n dX9_say_4 rfl rfl ?_
  refine go_getL flX9_239 fs_58_36 dX9_say_5 ?_
  rw [e]
  refine go_lmul dX9_say_8 ?_
  refine go_lload_n dX9_say_9 rfl rfl ?_
  refine go_ladd dX9_say_10 ?_
  refine go_putL fwX9_239 fs_58_36 (by exact u58) dX9_say_11 ?_
  refine go_vret rfl dX9_say_14 ?_
  exact ⟨rfl, rfl⟩
set_option maxHeartbeats 1000000 in
theorem lp_sayG2 {Γ : Gm} {σ : Mm} {X : Xs} {N g : Nat} {x : Int64} (hI : XI N X) (hg : g < pG (xP X)) : ∀ (m d : Nat) (σ' : Mm), d + m = pD (xP X) → DM σ σ' X (mixL (fun d => pWa (xP X) g d) x d) → Go Γ 6 mX9_sayGuest (aV (fun σ' => DM σ σ' X (mixH (mixL (fun d => pWa (xP X) g d) x (pD (xP X))) (minM (xP X) g)))) 27 [some (rf Γ 58), some (.int (nI g)), some (.int (nI d))] [] σ' := by
  intro m
  induction m with
  | zero =>
    intro d σ' hd hM
    have hP := hM.1.2.1.1
    have e : d = pD (xP X) := by omega
    subst e
    refine go_iload_n dX9_sayGuest_27 rfl rfl ?_
    refine go_aload_n dX9_sayGuest_28 rfl rfl ?_
    refine go_getI flX9_90 fs_58_7 dX9_sayGuest_29 ?_
    rw [hP.1.1]
    refine go_icmp_ge (tgt := 57) dX9_sayGuest_32 (by decide) (fun c32 => ?_) (fun c32 => ?_)
    · refine go_aload_n dX9_sayGuest_57 rfl rfl ?_
      refine go_aload_n dX9_sayGuest_58 rfl rfl ?_
      refine go_iload_n dX9_sayGuest_59 rfl rfl ?_
      refine go_callVi cvX9_186 os_58 (sm_mindsOf hM.1.2.1 hI.2.1.1 hg) (by omega) rfl rfl (Nat.le_of_ble_eq_true rfl) dX9_sayGuest_60 (fun σ1 q1 => ?_)
      refine go_i2l dX9_sayGuest_63 ?_
      refine go_callVv cvX9_243 os_58 (sm_say (hM.om q1).2.2) (by omega) rfl rfl (Nat.le_of_ble_eq_true rfl) dX9_sayGuest_64 (fun σ2 q2 => ?_)
      subst q2
      refine go_vret rfl dX9_sayGuest_67 ?_
      exact ⟨rfl, (hM.om q1).say⟩
    · exact absurd (Int32.le_refl _) c32
  | succ m ih =>
    intro d σ' hd hM
    have hP := hM.1.2.1.1
    have hD := hP.1.2
    have hG := hP.2.1.2
    refine go_iload_n dX9_sayGuest_27 rfl rfl ?_
    refine go_aload_n dX9_sayGuest_28 rfl rfl ?_
    refine go_getI flX9_90 fs_58_7 dX9_sayGuest_29 ?_
    rw [hP.1.1]
    refine go_icmp_ge (tgt := 57) dX9_sayGuest_32 (by decide) (fun c32 => ?_) (fun c32 => ?_)
    · exact absurd c32 (nI_ge (by omega) (by omega))
    · refine go_aload_n dX9_sayGuest_35 rfl rfl ?_
      refine go_aload_n dX9_sayGuest_36 rfl rfl ?_
      refine go_getR flX9_28 fs_58_16 dX9_sayGuest_37 ?_
      refine go_bipush (v := nI 6) dX9_sayGuest_40 rfl ?_
      refine go_iload_n dX9_sayGuest_42 rfl rfl ?_
      refine go_imul dX9_sayGuest_43 ?_
      refine go_iload_n dX9_sayGuest_44 rfl rfl ?_
      refine go_iadd dX9_sayGuest_45 ?_
      refine go_iald ((6 * g) + d) (by simp only [pk_mul, nI_add]) as_65 (by omega) (by decide) dX9_sayGuest_46 ?_
      rw [(hP.2.2.2 g hg).2.2 d (by omega)]
      refine go_i2l dX9_sayGuest_47 ?_
      refine go_callVv cvX9_243 os_58 (sm_say hM.2.2) (by omega) rfl rfl (Nat.le_of_ble_eq_true rfl) dX9_sayGuest_48 (fun σ2 q2 => ?_)
      subst q2
      refine go_iinc (v := nI (d + 1)) (L' := [_, _, _]) dX9_sayGuest_51 rfl (nI_1 _) (by decide) rfl rfl ?_
      refine go_goto (tgt := 27) dX9_sayGuest_54 (by decide) ?_
      exact ih (d + 1) _ (by omega) hM.say
set_option maxHeartbeats 1000000 in
theorem lp_sayG1 {Γ : Gm} {σ : Mm} {X : Xs} {N g : Nat} {x : Int64} (hI : XI N X) (hg : g < pG (xP X)) : ∀ (m w : Nat) (σ' : Mm), w + m = 6 → DM σ σ' X (mixL (fun w => aAbout X (nI g) (nI w)) x w) → Go Γ 6 mX9_sayGuest (aV (fun σ' => DM σ σ' X (dgG X g x))) 2 [some (rf Γ 58), some (.int (nI g)), some (.int (nI w))] [] σ' := by
  intro m
  induction m with
  | zero =>
    intro w σ' hw hM
    have e : w = 6 := by omega
    subst e
    refine go_iload_n dX9_sayGuest_2 rfl rfl ?_
    refine go_bipush (v := nI 6) dX9_sayGuest_3 rfl ?_
    refine go_icmp_ge (tgt := 25) dX9_sayGuest_5 (by decide) (fun c5 => ?_) (fun c5 => ?_)
    · refine go_iconst (v := nI 0) dX9_sayGuest_25 rfl ?_
      refine go_istore_n (L' := [_, _, _]) dX9_sayGuest_26 rfl (by decide) rfl rfl ?_
      exact lp_sayG2 hI hg (pD (xP X)) 0 σ' (by omega) hM
    · exact absurd (Int32.le_refl _) c5
  | succ m ih =>
    intro w σ' hw hM
    refine go_iload_n dX9_sayGuest_2 rfl rfl ?_
    refine go_bipush (v := nI 6) dX9_sayGuest_3 rfl ?_
    refine go_icmp_ge (tgt := 25) dX9_sayGuest_5 (by decide) (fun c5 => ?_) (fun c5 => ?_)
    · exact absurd c5 (nI_ge (by omega) (by omega))
    · refine go_aload_n dX9_sayGuest_8 rfl rfl ?_
      refine go_aload_n dX9_sayGuest_9 rfl rfl ?_
      refine go_iload_n dX9_sayGuest_10 rfl rfl ?_
      refine go_iload_n dX9_sayGuest_11 rfl rfl ?_
      refine go_callVp cvX9_134 os_58 (sm_tell hI hM.1 hg) (by omega) rfl rfl (Nat.le_of_ble_eq_true rfl) dX9_sayGuest_12 ?_
      refine go_i2l dX9_sayGuest_15 ?_
      refine go_callVv cvX9_243 os_58 (sm_say hM.2.2) (by omega) rfl rfl (Nat.le_of_ble_eq_true rfl) dX9_sayGuest_16 (fun σ2 q2 => ?_)
      subst q2
      refine go_iinc (v := nI (w + 1)) (L' := [_, _, _]) dX9_sayGuest_19 rfl (nI_1 _) (by decide) rfl rfl ?_
      refine go_goto (tgt := 2) dX9_sayGuest_22 (by decide) ?_
      exact ih (w + 1) _ (by omega) hM.say
set_option maxHeartbeats 1000000 in
theorem sm_sayGuest {Γ : Gm} {σ σ' : Mm} {X : Xs} {N g : Nat} {x : Int64} (hI : XI N X) (hg : g < pG (xP X)) (hM : DM σ σ' X x) : Sp Γ 6 mX9_sayGuest [rf Γ 58, .int (nI g)] σ' (aV (fun σ' => DM σ σ' X (dgG X g x))) := by
  refine sp_in (L := [some (rf Γ 58), some (.int (nI g)), none]) rfl (Nat.le_of_ble_eq_true rfl) rfl ?_
  refine go_iconst (v := nI 0) dX9_sayGuest_0 rfl ?_
  refine go_istore_n (L' := [_, _, _]) dX9_sayGuest_1 rfl (by decide) rfl rfl ?_
  exact lp_sayG1 hI hg 6 0 σ' rfl hM
set_option maxHeartbeats 1000000 in
theorem lp_dig5 {Γ : Gm} {σ : Mm} {X : Xs} {N : Nat} (hI : XI N X) : ∀ (m k : Nat) (σ' : Mm), k + m = 9 → DM σ σ' X (mixL (fun w => aCount X (nI w)) (dgs5 X) k) → Go Γ 7 mX9_digest (aJ (aDigest X) (fun σ' => RM σ' X ∧ FrM σ σ')) 171 [some (rf Γ 58), some (.int (nI k)), none] [] σ' := by
  intro m
  induction m with
  | zero =>
    intro k σ' hk hM
    have e : k = 9 := by omega
    subst e
    refine go_iload_n dX9_digest_171 rfl rfl ?_
    refine go_bipush (v := nI 9) dX9_digest_172 rfl ?_
    refine go_icmp_ge (tgt := 193) dX9_digest_174 (by decide) (fun c174 => ?_) (fun c174 => ?_)
    · refine go_aload_n dX9_digest_193 rfl rfl ?_
      refine go_getL flX9_239 fs_58_36 dX9_digest_194 ?_
      rw [hM.2.2]
      refine go_lret rfl dX9_digest_197 ?_
      exact ⟨rfl, hM.1, hM.2.1⟩
    · exact absurd (Int32.le_refl _) c174
  | succ m ih =>
    intro k σ' hk hM
    refine go_iload_n dX9_digest_171 rfl rfl ?_
    refine go_bipush (v := nI 9) dX9_digest_172 rfl ?_
    refine go_icmp_ge (tgt := 193) dX9_digest_174 (by decide) (fun c174 => ?_) (fun c174 => ?_)
    · exact absurd c174 (nI_ge (by omega) (by omega))
    · refine go_aload_n dX9_digest_177 rfl rfl ?_
      refine go_aload_n dX9_digest_178 rfl rfl ?_
      refine go_iload_n dX9_digest_179 rfl rfl ?_
      refine go_callVp cvX9_234 os_58 (sm_countOf hI hM.1) (by omega) rfl rfl (Nat.le_of_ble_eq_true rfl) dX9_digest_180 ?_
      refine go_i2l dX9_digest_183 ?_
      refine go_callVv cvX9_243 os_58 (sm_say hM.2.2) (by omega) rfl rfl (Nat.le_of_ble_eq_true rfl) dX9_digest_184 (fun σ2 q2 => ?_)
      subst q2
      refine go_iinc (v := nI (k + 1)) (L' := [_, _, _]) dX9_digest_187 rfl (nI_1 _) (by decide) rfl rfl ?_
      refine go_goto (tgt := 171) dX9_digest_190 (by decide) ?_
      exact ih (k + 1) _ (by omega) hM.say
set_option maxHeartbeats 1000000 in
theorem lp_dig4 {Γ : Gm} {σ : Mm} {X : Xs} {N : Nat} (hI : XI N X) : ∀ (m k : Nat) (σ' : Mm), k + m = xPn X → DM σ σ' X (mixL (xPg X) (dgs4 X) k) → Go Γ 7 mX9_digest (aJ (aDigest X) (fun σ' => RM σ' X ∧ FrM σ σ')) 144 [some (rf Γ 58), some (.int (nI k)), none] [] σ' := by
  have hn := hI.1
  intro m
  induction m with
  | zero =>
    intro k σ' hk hM
    have e : k = xPn X := by omega
    subst e
    refine go_iload_n dX9_digest_144 rfl rfl ?_
    refine go_aload_n dX9_digest_145 rfl rfl ?_
    refine go_getI flX9_68 fs_58_1 dX9_digest_146 ?_
    rw [hM.1.1.1]
    refine go_icmp_ge (tgt := 169) dX9_digest_149 (by decide) (fun c149 => ?_) (fun c149 => ?_)
    · refine go_iconst (v := nI 0) dX9_digest_169 rfl ?_
      refine go_istore_n (L' := [_, _, _]) dX9_digest_170 rfl (by decide) rfl rfl ?_
      exact lp_dig5 hI 9 0 σ' rfl hM
    · exact absurd (Int32.le_refl _) c149
  | succ m ih =>
    intro k σ' hk hM
    refine go_iload_n dX9_digest_144 rfl rfl ?_
    refine go_aload_n dX9_digest_145 rfl rfl ?_
    refine go_getI flX9_68 fs_58_1 dX9_digest_146 ?_
    rw [hM.1.1.1]
    refine go_icmp_ge (tgt := 169) dX9_digest_149 (by decide) (fun c149 => ?_) (fun c149 => ?_)
    · exact absurd c149 (nI_ge (by omega) (by omega))
    · refine go_aload_n dX9_digest_152 rfl rfl ?_
      refine go_aload_n dX9_digest_153 rfl rfl ?_
      refine go_getR flX9_7 fs_58_0 dX9_digest_154 ?_
      refine go_iload_n dX9_digest_157 rfl rfl ?_
      refine go_iald (k) rfl as_59 (by omega) (by decide) dX9_digest_158 ?_
      rw [hM.1.1.2 k (by omega)]
      refine go_i2l dX9_digest_159 ?_
      refine go_callVv cvX9_243 os_58 (sm_say hM.2.2) (by omega) rfl rfl (Nat.le_of_ble_eq_true rfl) dX9_digest_160 (fun σ2 q2 => ?_)
      subst q2
      refine go_iinc (v := nI (k + 1)) (L' := [_, _, _]) dX9_digest_163 rfl (nI_1 _) (by decide) rfl rfl ?_
      refine go_goto (tgt := 144) dX9_digest_166 (by decide) ?_
      exact ih (k + 1) _ (by omega) hM.say
set_option maxHeartbeats 1000000 in
theorem lp_dig3 {Γ : Gm} {σ σ' : Mm} {X : Xs} {N : Nat} (hI : XI N X) (hM : DM σ σ' X (dgs3 X)) : Go Γ 7 mX9_digest (aJ (aDigest X) (fun σ' => RM σ' X ∧ FrM σ σ')) 113 [some (rf Γ 58), none, none] [] σ' := by
  have hP := hM.1.2.1.1
  have hG := hP.2.1.2
  have eb : pG (xP X) ≠ 0 → bfL (joyF (xP X) (-1)) (-1) (pG (xP X)) = bfL (joyF (xP X) (-1)) 0 (pG (xP X)) := fun h0 => by
    obtain ⟨n, e⟩ : ∃ n, pG (xP X) = n + 1 := ⟨pG (xP X) - 1, by omega⟩
    have z := joyF_pos (f := 0) hI.2.1 (Or.inl rfl) (by omega)
    rw [e]
    exact bfL_b0 z n
  refine go_aload_n dX9_digest_113 rfl rfl ?_
  refine go_getI flX9_96 fs_58_14 dX9_digest_114 ?_
  rw [hP.2.1.1]
  refine go_if_le (tgt := 142) dX9_digest_117 (by decide) (fun c117 => ?_) (fun c117 => ?_)
  · have c117 : pG (xP X) = 0 := by rw [nI0_lt (by omega)] at c117; exact c117
    refine go_iconst (v := nI 0) dX9_digest_142 rfl ?_
    refine go_istore_n (L' := [_, _, _]) dX9_digest_143 rfl (by decide) rfl rfl ?_
    exact go_sub [true, true, true] rfl (lp_dig4 hI (xPn X) 0 σ' (by omega) (by show DM σ σ' X (dgs4 X); unfold dgs4; rw [if_pos c117]; exact hM))
  · have c117 : ¬ pG (xP X) = 0 := by rw [nI0_lt (by omega)] at c117; exact c117
    refine go_aload_n dX9_digest_120 rfl rfl ?_
    refine go_aload_n dX9_digest_121 rfl rfl ?_
    refine go_iconst (v := (-1)) dX9_digest_122 rfl ?_
    refine go_iconst (v := nI 0) dX9_digest_123 rfl ?_
    refine go_callVi cvX9_173 os_58 (sm_beginOf (w := nI 0) hM.1.2.1 (Or.inl rfl)) (by omega) rfl rfl (Nat.le_of_ble_eq_true rfl) dX9_digest_124 (fun σ1 q1 => ?_)
    rw [if_pos (show nI 0 = 0 by decide), eb c117]
    refine go_i2l dX9_digest_127 ?_
    refine go_callVv cvX9_243 os_58 (sm_say (hM.om q1).2.2) (by omega) rfl rfl (Nat.le_of_ble_eq_true rfl) dX9_digest_128 (fun σ2 q2 => ?_)
    subst q2
    refine go_aload_n dX9_digest_131 rfl rfl ?_
    refine go_aload_n dX9_digest_132 rfl rfl ?_
    refine go_iconst (v := (-1)) dX9_digest_133 rfl ?_
    refine go_iconst (v := nI 1) dX9_digest_134 rfl ?_
    refine go_callVi cvX9_173 os_58 (sm_beginOf (w := nI 1) ((hM.om q1).say (y := mixH (dgs3 X) (bfL (joyF (xP X) (-1)) 0 (pG (xP X))).1)).1.2.1 (Or.inl rfl)) (by omega) rfl rfl (Nat.le_of_ble_eq_true rfl) dX9_digest_135 (fun σ3 q3 => ?_)
    rw [if_neg (show ¬ nI 1 = 0 by decide), eb c117]
    refine go_i2l dX9_digest_138 ?_
    refine go_callVv cvX9_243 os_58 (sm_say (((hM.om q1).say).om q3).2.2) (by omega) rfl rfl (Nat.le_of_ble_eq_true rfl) dX9_digest_139 (fun σ4 q4 => ?_)
    subst q4
    refine go_iconst (v := nI 0) dX9_digest_142 rfl ?_
    refine go_istore_n (L' := [_, _, _]) dX9_digest_143 rfl (by decide) rfl rfl ?_
    exact go_sub [true, true, true] rfl (lp_dig4 hI (xPn X) 0 _ (by omega) (by show DM σ _ X (dgs4 X); unfold dgs4; rw [if_neg c117]; exact (((hM.om q1).say).om q3).say))
set_option maxHeartbeats 2000000 in
theorem lp_dig2 {Γ : Gm} {σ : Mm} {X : Xs} {N : Nat} (hI : XI N X) (hh : hmF (xP X) ((pD (xP X) + 1) ^ pG (xP X)) = hostM (xP X)) : ∀ (m g : Nat) (σ' : Mm), g + m = pG (xP X) → DM σ σ' X (foL (dgG X) (dgs1 X) g) → Go Γ 7 mX9_digest (aJ (aDigest X) (fun σ' => RM σ' X ∧ FrM σ σ')) 49 [some (rf Γ 58), some (.int (nI g)), none] [] σ' := by
  intro m
  induction m with
  | zero =>
    intro g σ' hg hM
    have hP := hM.1.2.1.1
    have hG := hP.2.1.2
    have e : g = pG (xP X) := by omega
    subst e
    have hM : DM σ σ' X (dgs2 X) := hM
    refine go_iload_n dX9_digest_49 rfl rfl ?_
    refine go_aload_n dX9_digest_50 rfl rfl ?_
    refine go_getI flX9_96 fs_58_14 dX9_digest_51 ?_
    rw [hP.2.1.1]
    refine go_icmp_ge (tgt := 68) dX9_digest_54 (by decide) (fun c54 => ?_) (fun c54 => ?_)
    · refine go_aload_n dX9_digest_68 rfl rfl ?_
      refine go_callVp cvX9_121 os_58 (sm_lacks hP) (by omega) rfl rfl (Nat.le_of_ble_eq_true rfl) dX9_digest_69 ?_
      refine go_if_ne (tgt := 113) dX9_digest_72 (by decide) (fun c72 => ?_) (fun c72 => ?_)
      · have c72 : pD (xP X) = 0 := by have := bI_ne0.mp c72; simpa using this
        exact go_sub [true, false, true] rfl (lp_dig3 hI (by unfold dgs3; rw [if_pos c72]; exact hM))
      · have c72 : ¬ pD (xP X) = 0 := by have := bI_eq0.mp c72; simpa using this
        refine go_aload_n dX9_digest_75 rfl rfl ?_
        refine go_aload_n dX9_digest_76 rfl rfl ?_
        refine go_callVi cvX9_189 os_58 (sm_hostOf hP) (by omega) rfl rfl (Nat.le_of_ble_eq_true rfl) dX9_digest_77 (fun σ1 q1 => ?_)
        rw [hh]
        have m1 := hM.om q1.om
        refine go_i2l dX9_digest_80 ?_
        refine go_callVv cvX9_243 os_58 (sm_say m1.2.2) (by omega) rfl rfl (Nat.le_of_ble_eq_true rfl) dX9_digest_81 (fun σ2 q2 => ?_)
        subst q2
        have m2 := m1.say (y := mixH (dgs2 X) (hostM (xP X)))
        refine go_aload_n dX9_digest_84 rfl rfl ?_
        refine go_aload_n dX9_digest_85 rfl rfl ?_
        refine go_iconst (v := nI 0) dX9_digest_86 rfl ?_
        refine go_callVp cvX9_195 os_58 (sm_fewestOf (w := 0) m2.1.2.1.1 (by omega) rfl) (by omega) rfl rfl (Nat.le_of_ble_eq_true rfl) dX9_digest_87 ?_
        refine go_i2l dX9_digest_90 ?_
        refine go_callVv cvX9_243 os_58 (sm_say m2.2.2) (by omega) rfl rfl (Nat.le_of_ble_eq_true rfl) dX9_digest_91 (fun σ3 q3 => ?_)
        subst q3
        have m3 := m2.say (y := mixH (mixH (dgs2 X) (hostM (xP X))) (fewV (xP X) 0))
        refine go_aload_n dX9_digest_94 rfl rfl ?_
        refine go_aload_n dX9_digest_95 rfl rfl ?_
        refine go_iconst (v := nI 1) dX9_digest_96 rfl ?_
        refine go_callVp cvX9_195 os_58 (sm_fewestOf (w := 1) m3.1.2.1.1 (by omega) rfl) (by omega) rfl rfl (Nat.le_of_ble_eq_true rfl) dX9_digest_97 ?_
        refine go_i2l dX9_digest_100 ?_
        refine go_callVv cvX9_243 os_58 (sm_say m3.2.2) (by omega) rfl rfl (Nat.le_of_ble_eq_true rfl) dX9_digest_101 (fun σ4 q4 => ?_)
        subst q4
        have m4 := m3.say (y := mixH (mixH (mixH (dgs2 X) (hostM (xP X))) (fewV (xP X) 0)) (fewV (xP X) 1))
        refine go_aload_n dX9_digest_104 rfl rfl ?_
        refine go_aload_n dX9_digest_105 rfl rfl ?_
        refine go_callVi cvX9_200 os_58 (sm_fitsOf m4.1.2.1 m4.1.2.2.2.1) (by omega) rfl rfl (Nat.le_of_ble_eq_true rfl) dX9_digest_106 (fun σ5 q5 => ?_)
        refine go_i2l dX9_digest_109 ?_
        refine go_callVv cvX9_243 os_58 (sm_say (m4.om q5).2.2) (by omega) rfl rfl (Nat.le_of_ble_eq_true rfl) dX9_digest_110 (fun σ6 q6 => ?_)
        subst q6
        exact go_sub [true, false, true] rfl (lp_dig3 hI (by unfold dgs3; rw [if_neg c72]; exact (m4.om q5).say))
    · exact absurd (Int32.le_refl _) c54
  | succ m ih =>
    intro g σ' hg hM
    have hP := hM.1.2.1.1
    have hG := hP.2.1.2
    refine go_iload_n dX9_digest_49 rfl rfl ?_
    refine go_aload_n dX9_digest_50 rfl rfl ?_
    refine go_getI flX9_96 fs_58_14 dX9_digest_51 ?_
    rw [hP.2.1.1]
    refine go_icmp_ge (tgt := 68) dX9_digest_54 (by decide) (fun c54 => ?_) (fun c54 => ?_)
    · exact absurd c54 (nI_ge (by omega) (by omega))
    · refine go_aload_n dX9_digest_57 rfl rfl ?_
      refine go_iload_n dX9_digest_58 rfl rfl ?_
      refine go_callVv cvX9_249 os_58 (sm_sayGuest hI (show g < pG (xP X) by omega) hM) (by omega) rfl rfl (Nat.le_of_ble_eq_true rfl) dX9_digest_59 (fun σ1 q1 => ?_)
      refine go_iinc (v := nI (g + 1)) (L' := [_, _, _]) dX9_digest_62 rfl (nI_1 _) (by decide) rfl rfl ?_
      refine go_goto (tgt := 49) dX9_digest_65 (by decide) ?_
      exact ih (g + 1) σ1 (by omega) q1
set_option maxHeartbeats 1000000 in
theorem lp_dig1b {Γ : Gm} {σ : Mm} {X : Xs} {d : Nat} {x : Int64} {Q : Option Value → Mm → Prop} (hd : d < pD (xP X))
    (next : ∀ σ', DM σ σ' X (mixL (fun w => aDish X (nI d) (nI w)) x 4) → Go Γ 7 mX9_digest Q 41 [some (rf Γ 58), some (.int (nI d)), none] [] σ') :
    ∀ (m w : Nat) (σ' : Mm), w + m = 4 → DM σ σ' X (mixL (fun w => aDish X (nI d) (nI w)) x w) → Go Γ 7 mX9_digest Q 19 [some (rf Γ 58), some (.int (nI d)), some (.int (nI w))] [] σ' := by
  intro m
  induction m with
  | zero =>
    intro w σ' hw hM
    have e : w = 4 := by omega
    subst e
    refine go_iload_n dX9_digest_19 rfl rfl ?_
    refine go_iconst (v := nI 4) dX9_digest_20 rfl ?_
    refine go_icmp_ge (tgt := 41) dX9_digest_21 (by decide) (fun c21 => ?_) (fun c21 => ?_)
    · exact go_sub [true, true, false] rfl (next σ' hM)
    · exact absurd (Int32.le_refl _) c21
  | succ m ih =>
    intro w σ' hw hM
    refine go_iload_n dX9_digest_19 rfl rfl ?_
    refine go_iconst (v := nI 4) dX9_digest_20 rfl ?_
    refine go_icmp_ge (tgt := 41) dX9_digest_21 (by decide) (fun c21 => ?_) (fun c21 => ?_)
    · exact absurd c21 (nI_ge (by omega) (by omega))
    · refine go_aload_n dX9_digest_24 rfl rfl ?_
      refine go_aload_n dX9_digest_25 rfl rfl ?_
      refine go_iload_n dX9_digest_26 rfl rfl ?_
      refine go_iload_n dX9_digest_27 rfl rfl ?_
      refine go_callVp cvX9_115 os_58 (sm_tellDish hM.1 hd) (by omega) rfl rfl (Nat.le_of_ble_eq_true rfl) dX9_digest_28 ?_
      refine go_i2l dX9_digest_31 ?_
      refine go_callVv cvX9_243 os_58 (sm_say hM.2.2) (by omega) rfl rfl (Nat.le_of_ble_eq_true rfl) dX9_digest_32 (fun σ2 q2 => ?_)
      subst q2
      refine go_iinc (v := nI (w + 1)) (L' := [_, _, _]) dX9_digest_35 rfl (nI_1 _) (by decide) rfl rfl ?_
      refine go_goto (tgt := 19) dX9_digest_38 (by decide) ?_
      exact ih (w + 1) _ (by omega) hM.say
set_option maxHeartbeats 1000000 in
theorem lp_dig1 {Γ : Gm} {σ : Mm} {X : Xs} {N : Nat} (hI : XI N X) (hh : hmF (xP X) ((pD (xP X) + 1) ^ pG (xP X)) = hostM (xP X)) : ∀ (m d : Nat) (σ' : Mm), d + m = pD (xP X) → DM σ σ' X (foL (fun d x => mixL (fun w => aDish X (nI d) (nI w)) x 4) 757 d) → Go Γ 7 mX9_digest (aJ (aDigest X) (fun σ' => RM σ' X ∧ FrM σ σ')) 9 [some (rf Γ 58), some (.int (nI d)), none] [] σ' := by
  intro m
  induction m with
  | zero =>
    intro d σ' hd hM
    have hP := hM.1.2.1.1
    have e : d = pD (xP X) := by omega
    subst e
    refine go_iload_n dX9_digest_9 rfl rfl ?_
    refine go_aload_n dX9_digest_10 rfl rfl ?_
    refine go_getI flX9_90 fs_58_7 dX9_digest_11 ?_
    rw [hP.1.1]
    refine go_icmp_ge (tgt := 47) dX9_digest_14 (by decide) (fun c14 => ?_) (fun c14 => ?_)
    · refine go_iconst (v := nI 0) dX9_digest_47 rfl ?_
      refine go_istore_n (L' := [_, _, _]) dX9_digest_48 rfl (by decide) rfl rfl ?_
      exact lp_dig2 hI hh (pG (xP X)) 0 σ' (by omega) hM
    · exact absurd (Int32.le_refl _) c14
  | succ m ih =>
    intro d σ' hd hM
    have hP := hM.1.2.1.1
    have hD := hP.1.2
    have n41 : ∀ σ2, DM σ σ2 X (mixL (fun w => aDish X (nI d) (nI w)) (foL (fun d x => mixL (fun w => aDish X (nI d) (nI w)) x 4) 757 d) 4) → Go Γ 7 mX9_digest (aJ (aDigest X) (fun σ' => RM σ' X ∧ FrM σ σ')) 41 [some (rf Γ 58), some (.int (nI d)), none] [] σ2 := by
      intro σ2 h2
      refine go_iinc (v := nI (d + 1)) (L' := [_, _, _]) dX9_digest_41 rfl (nI_1 _) (by decide) rfl rfl ?_
      refine go_goto (tgt := 9) dX9_digest_44 (by decide) ?_
      exact ih (d + 1) σ2 (by omega) h2
    refine go_iload_n dX9_digest_9 rfl rfl ?_
    refine go_aload_n dX9_digest_10 rfl rfl ?_
    refine go_getI flX9_90 fs_58_7 dX9_digest_11 ?_
    rw [hP.1.1]
    refine go_icmp_ge (tgt := 47) dX9_digest_14 (by decide) (fun c14 => ?_) (fun c14 => ?_)
    · exact absurd c14 (nI_ge (by omega) (by omega))
    · refine go_iconst (v := nI 0) dX9_digest_17 rfl ?_
      refine go_istore_n (L' := [_, _, _]) dX9_digest_18 rfl (by decide) rfl rfl ?_
      exact lp_dig1b (by omega) n41 4 0 σ' rfl hM
set_option maxHeartbeats 1000000 in
theorem sm_digest {Γ : Gm} {σ : Mm} {X : Xs} {N : Nat} (hI : XI N X) (hh : hmF (xP X) ((pD (xP X) + 1) ^ pG (xP X)) = hostM (xP X)) (h : RM σ X) : Sp Γ 7 mX9_digest [rf Γ 58] σ (aJ (aDigest X) (fun σ' => RM σ' X ∧ FrM σ σ')) := by
  refine sp_in (L := [some (rf Γ 58), none, none]) rfl (Nat.le_of_ble_eq_true rfl) rfl ?_
  refine go_aload_n dX9_digest_0 rfl rfl ?_
  refine go_ldc2 (v := 757) dX9_digest_1 klX9_247 ?_
  refine go_putL fwX9_239 fs_58_36 (by exact u58) dX9_digest_4 ?_
  refine go_iconst (v := nI 0) dX9_digest_7 rfl ?_
  refine go_istore_n (L' := [_, _, _]) dX9_digest_8 rfl (by decide) rfl rfl ?_
  exact lp_dig1 hI hh (pD (xP X)) 0 _ (by omega) ((show DM σ σ X (σ.2 58) from ⟨h, FrM.rf, rfl⟩).say)
