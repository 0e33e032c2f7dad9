/-! the model's public methods (4) -/
theorem bfL_b0 {j : Nat → Int32} {b b' : Int32} (h : -1 < j 0) : ∀ n : Nat, bfL j b (n + 1) = bfL j b' (n + 1)
  | 0 => by
    show (if (-1 : Int32) < j 0 then (nI 0, j 0) else _) = (if (-1 : Int32) < j 0 then (nI 0, j 0) else _)
    rw [if_pos h, if_pos h]
  | n + 1 => by
    unfold bfL
    rw [bfL_b0 (b := b) (b' := b') h n]
set_option maxHeartbeats 1000000 in
theorem sm_inTurn {Γ : Gm} {σ : Mm} {X : Xs} {a b : Int32} (h : RM σ X) : Sp Γ 6 mX9_inTurn [rf Γ 58, .int a, .int b] σ (aI (aInTurn X a b) (fun σ' => RM σ' X ∧ FrM σ σ')) := by
  refine sp_in (L := [some (rf Γ 58), some (.int a), some (.int b)]) rfl (Nat.le_of_ble_eq_true rfl) rfl ?_
  have hP := h.2.1.1
  have hG := hP.2.1.2
  cases hi : ix (pG (xP X)) a with
  | none =>
    refine go_aload_n dX9_inTurn_0 rfl rfl ?_
    refine go_iload_n dX9_inTurn_1 rfl rfl ?_
    refine go_callVp cvX9_131 os_58 (sm_isGuest hP) (by omega) rfl rfl (Nat.le_of_ble_eq_true rfl) dX9_inTurn_2 ?_
    rw [hi]
    refine go_if_eq (tgt := 16) dX9_inTurn_5 (by decide) (fun c5 => ?_) (fun c5 => ?_)
    · refine go_bipush (v := (-101)) dX9_inTurn_16 rfl ?_
      refine go_iret rfl dX9_inTurn_18 ?_
      exact ⟨by unfold aInTurn; rw [hi], h.q OM.rf⟩
    · exact absurd rfl c5
  | some f =>
    obtain ⟨hf, rfl⟩ := ix_some (by omega) hi
    cases hj : ix (pG (xP X)) b with
    | none =>
      refine go_aload_n dX9_inTurn_0 rfl rfl ?_
      refine go_iload_n dX9_inTurn_1 rfl rfl ?_
      refine go_callVp cvX9_131 os_58 (sm_isGuest hP) (by omega) rfl rfl (Nat.le_of_ble_eq_true rfl) dX9_inTurn_2 ?_
      rw [hi]
      refine go_if_eq (tgt := 16) dX9_inTurn_5 (by decide) (fun c5 => ?_) (fun c5 => ?_)
      · exact absurd c5 bt0
      · refine go_aload_n dX9_inTurn_8 rfl rfl ?_
        refine go_iload_n dX9_inTurn_9 rfl rfl ?_
        refine go_callVp cvX9_131 os_58 (sm_isGuest hP) (by omega) rfl rfl (Nat.le_of_ble_eq_true rfl) dX9_inTurn_10 ?_
        rw [hj]
        refine go_if_ne (tgt := 19) dX9_inTurn_13 (by decide) (fun c13 => ?_) (fun c13 => ?_)
        · exact absurd rfl c13
        · refine go_bipush (v := (-101)) dX9_inTurn_16 rfl ?_
          refine go_iret rfl dX9_inTurn_18 ?_
          exact ⟨by unfold aInTurn; rw [hi, hj], h.q OM.rf⟩
    | some g =>
      obtain ⟨hg, rfl⟩ := ix_some (by omega) hj
      refine go_aload_n dX9_inTurn_0 rfl rfl ?_
      refine go_iload_n dX9_inTurn_1 rfl rfl ?_
      refine go_callVp cvX9_131 os_58 (sm_isGuest hP) (by omega) rfl rfl (Nat.le_of_ble_eq_true rfl) dX9_inTurn_2 ?_
      rw [hi]
      refine go_if_eq (tgt := 16) dX9_inTurn_5 (by decide) (fun c5 => ?_) (fun c5 => ?_)
      · exact absurd c5 bt0
      · refine go_aload_n dX9_inTurn_8 rfl rfl ?_
        refine go_iload_n dX9_inTurn_9 rfl rfl ?_
        refine go_callVp cvX9_131 os_58 (sm_isGuest hP) (by omega) rfl rfl (Nat.le_of_ble_eq_true rfl) dX9_inTurn_10 ?_
        rw [hj]
        refine go_if_ne (tgt := 19) dX9_inTurn_13 (by decide) (fun c13 => ?_) (fun c13 => ?_)
        · refine go_aload_n dX9_inTurn_19 rfl rfl ?_
          refine go_callVv cvX9_156 os_58 (sm_asItIs h.2.1) (by omega) rfl rfl (Nat.le_of_ble_eq_true rfl) dX9_inTurn_20 (fun σ1 q1 => ?_)
          refine go_aload_n dX9_inTurn_23 rfl rfl ?_
          refine go_iload_n dX9_inTurn_24 rfl rfl ?_
          refine go_callVv cvX9_165 os_58 (sm_lay (hP.om q1.2.1) q1.1 hf) (by omega) rfl rfl (Nat.le_of_ble_eq_true rfl) dX9_inTurn_25 (fun σ2 q2 => ?_)
          refine go_aload_n dX9_inTurn_28 rfl rfl ?_
          refine go_getR flX9_34 fs_58_21 dX9_inTurn_29 ?_
          refine go_iload_n dX9_inTurn_32 rfl rfl ?_
          refine go_iald (g) rfl as_67 (by omega) (by decide) dX9_inTurn_33 ?_
          rw [q2.1 g hg]
          refine go_iret rfl dX9_inTurn_34 ?_
          exact ⟨by unfold aInTurn; rw [hi, hj], h.q (q1.2.1.trans q2.2.om)⟩
        · exact absurd c13 bt0
set_option maxHeartbeats 1000000 in
theorem sm_begin {Γ : Gm} {σ : Mm} {X : Xs} {N : Nat} {a b : Int32} (hI : XI N X) (h : RM σ X) : Sp Γ 6 mX9_begin [rf Γ 58, .int a, .int b] σ (aI (aBegin X a b) (fun σ' => RM σ' X ∧ FrM σ σ')) := by
  refine sp_in (L := [some (rf Γ 58), some (.int a), some (.int b)]) rfl (Nat.le_of_ble_eq_true rfl) rfl ?_
  have hP := h.2.1.1
  have hG := hP.2.1.2
  have at16 : (a = -1 ∨ ∃ k, k < pG (xP X) ∧ a = nI k) → ¬ (a ≠ -1 ∧ ix (pG (xP X)) a = none) → Go Γ 6 mX9_begin (aI (aBegin X a b) (fun σ' => RM σ' X ∧ FrM σ σ')) 16 [some (rf Γ 58), some (.int a), some (.int b)] [] σ := by
    intro ha hn
    have e0 : aBegin X a b = match ix 2 b with
      | none => -102
      | some w => if pG (xP X) = 0 then -103 else if w = 0 then (bfL (joyF (xP X) a) 0 (pG (xP X))).1 else (bfL (joyF (xP X) a) 0 (pG (xP X))).2 := by
      unfold aBegin; rw [if_neg hn]; cases ix 2 b <;> rfl
    have hbx := inR_ix (k := 1) (a := b) (by omega)
    cases hb : ix 2 b with
    | none =>
      rw [hb] at hbx e0
      refine go_iload_n dX9_begin_16 rfl rfl ?_
      refine go_i2l dX9_begin_17 ?_
      refine go_lconst (v := 0) dX9_begin_18 rfl ?_
      refine go_lconst (v := 1) dX9_begin_19 rfl ?_
      refine go_callSp csX9_64 (sm_in (lo := nI 0) (hi := nI 1) rfl rfl rfl) (by omega) rfl rfl (Nat.le_of_ble_eq_true rfl) dX9_begin_20 ?_
      rw [hbx]
      refine go_if_ne (tgt := 29) dX9_begin_23 (by decide) (fun c23 => ?_) (fun c23 => ?_)
      · exact absurd rfl c23
      · refine go_bipush (v := (-102)) dX9_begin_26 rfl ?_
        refine go_iret rfl dX9_begin_28 ?_
        exact ⟨by rw [e0], h.q OM.rf⟩
    | some w =>
      obtain ⟨hw, rfl⟩ := ix_some (by omega) hb
      rw [hb] at hbx e0
      by_cases h0 : pG (xP X) = 0
      · have hs : σ.1 58 14 = nI 0 := by rw [hP.2.1.1, h0]
        refine go_iload_n dX9_begin_16 rfl rfl ?_
        refine go_i2l dX9_begin_17 ?_
        refine go_lconst (v := 0) dX9_begin_18 rfl ?_
        refine go_lconst (v := 1) dX9_begin_19 rfl ?_
        refine go_callSp csX9_64 (sm_in (lo := nI 0) (hi := nI 1) rfl rfl rfl) (by omega) rfl rfl (Nat.le_of_ble_eq_true rfl) dX9_begin_20 ?_
        rw [hbx]
        refine go_if_ne (tgt := 29) dX9_begin_23 (by decide) (fun c23 => ?_) (fun c23 => ?_)
        · refine go_aload_n dX9_begin_29 rfl rfl ?_
          refine go_getI flX9_96 fs_58_14 dX9_begin_30 ?_
          rw [hs]
          refine go_if_ne (tgt := 41) dX9_begin_33 (by decide) (fun c33 => ?_) (fun c33 => ?_)
          · exact absurd rfl c33
          · refine go_bipush (v := (-103)) dX9_begin_36 rfl ?_
            refine go_goto (tgt := 47) dX9_begin_38 (by decide) ?_
            refine go_iret rfl dX9_begin_47 ?_
            exact ⟨by rw [e0]; simp only [if_pos h0], h.q OM.rf⟩
        · exact absurd c23 bt0
      · have eb : bfL (joyF (xP X) a) 0 (pG (xP X)) = bfL (joyF (xP X) a) (-1) (pG (xP X)) := by
          obtain ⟨n, e⟩ : ∃ n, pG (xP X) = n + 1 := ⟨pG (xP X) - 1, by omega⟩
          have z := joyF_pos (f := 0) hI.2.1 ha (by omega)
          rw [e]
          exact bfL_b0 z n
        refine go_iload_n dX9_begin_16 rfl rfl ?_
        refine go_i2l dX9_begin_17 ?_
        refine go_lconst (v := 0) dX9_begin_18 rfl ?_
        refine go_lconst (v := 1) dX9_begin_19 rfl ?_
        refine go_callSp csX9_64 (sm_in (lo := nI 0) (hi := nI 1) rfl rfl rfl) (by omega) rfl rfl (Nat.le_of_ble_eq_true rfl) dX9_begin_20 ?_
        rw [hbx]
        refine go_if_ne (tgt := 29) dX9_begin_23 (by decide) (fun c23 => ?_) (fun c23 => ?_)
        · refine go_aload_n dX9_begin_29 rfl rfl ?_
          refine go_getI flX9_96 fs_58_14 dX9_begin_30 ?_
          rw [hP.2.1.1]
          refine go_if_ne (tgt := 41) dX9_begin_33 (by decide) (fun c33 => ?_) (fun c33 => ?_)
          · refine go_aload_n dX9_begin_41 rfl rfl ?_
            refine go_iload_n dX9_begin_42 rfl rfl ?_
            refine go_iload_n dX9_begin_43 rfl rfl ?_
            refine go_callVi cvX9_173 os_58 (sm_beginOf h.2.1 ha) (by omega) rfl rfl (Nat.le_of_ble_eq_true rfl) dX9_begin_44 (fun σ1 q1 => ?_)
            refine go_iret rfl dX9_begin_47 ?_
            refine ⟨?_, h.q q1⟩
            rw [e0]
            simp only [if_neg h0, eb]
            by_cases z : w = 0
            · subst z; rfl
            · rw [if_neg z, if_neg (fun y => z ((nI_z (by omega)).mp y))]
          · exact absurd ((nI_z (by omega)).mp c33) h0
        · exact absurd c23 bt0
  cases hi : ix (pG (xP X)) a with
  | none =>
    refine go_iload_n dX9_begin_0 rfl rfl ?_
    refine go_iconst (v := (-1)) dX9_begin_1 rfl ?_
    refine go_icmp_eq (tgt := 16) dX9_begin_2 (by decide) (fun c2 => ?_) (fun c2 => ?_)
    · exact at16 (Or.inl c2) (fun z => z.1 c2)
    · refine go_aload_n dX9_begin_5 rfl rfl ?_
      refine go_iload_n dX9_begin_6 rfl rfl ?_
      refine go_callVp cvX9_131 os_58 (sm_isGuest hP) (by omega) rfl rfl (Nat.le_of_ble_eq_true rfl) dX9_begin_7 ?_
      rw [hi]
      refine go_if_ne (tgt := 16) dX9_begin_10 (by decide) (fun c10 => ?_) (fun c10 => ?_)
      · exact absurd rfl c10
      · refine go_bipush (v := (-101)) dX9_begin_13 rfl ?_
        refine go_iret rfl dX9_begin_15 ?_
        exact ⟨by unfold aBegin; rw [if_pos ⟨c2, hi⟩], h.q OM.rf⟩
  | some k =>
    obtain ⟨hk, rfl⟩ := ix_some (by omega) hi
    refine go_iload_n dX9_begin_0 rfl rfl ?_
    refine go_iconst (v := (-1)) dX9_begin_1 rfl ?_
    refine go_icmp_eq (tgt := 16) dX9_begin_2 (by decide) (fun c2 => ?_) (fun c2 => ?_)
    · exact at16 (Or.inl c2) (fun z => z.1 c2)
    · refine go_aload_n dX9_begin_5 rfl rfl ?_
      refine go_iload_n dX9_begin_6 rfl rfl ?_
      refine go_callVp cvX9_131 os_58 (sm_isGuest hP) (by omega) rfl rfl (Nat.le_of_ble_eq_true rfl) dX9_begin_7 ?_
      rw [hi]
      refine go_if_ne (tgt := 16) dX9_begin_10 (by decide) (fun c10 => ?_) (fun c10 => ?_)
      · exact at16 (Or.inr ⟨k, hk, rfl⟩) (fun z => by rw [hi] at z; cases z.2)
      · exact absurd c10 bt0
set_option maxHeartbeats 1000000 in
theorem sm_minds {Γ : Gm} {σ : Mm} {X : Xs} {N : Nat} {a : Int32} (hI : XI N X) (h : RM σ X) : Sp Γ 6 mX9_minds [rf Γ 58, .int a] σ (aI (aMinds X a) (fun σ' => RM σ' X ∧ FrM σ σ')) := by
  refine sp_in (L := [some (rf Γ 58), some (.int a)]) rfl (Nat.le_of_ble_eq_true rfl) rfl ?_
  have hP := h.2.1.1
  have hG := hP.2.1.2
  cases hi : ix (pG (xP X)) a with
  | none =>
    refine go_aload_n dX9_minds_0 rfl rfl ?_
    refine go_iload_n dX9_minds_1 rfl rfl ?_
    refine go_callVp cvX9_131 os_58 (sm_isGuest hP) (by omega) rfl rfl (Nat.le_of_ble_eq_true rfl) dX9_minds_2 ?_
    rw [hi]
    refine go_if_eq (tgt := 16) dX9_minds_5 (by decide) (fun c5 => ?_) (fun c5 => ?_)
    · refine go_bipush (v := (-101)) dX9_minds_16 rfl ?_
      refine go_iret rfl dX9_minds_18 ?_
      exact ⟨by unfold aMinds; rw [hi], h.q OM.rf⟩
    · exact absurd rfl c5
  | some f =>
    obtain ⟨hf, rfl⟩ := ix_some (by omega) hi
    refine go_aload_n dX9_minds_0 rfl rfl ?_
    refine go_iload_n dX9_minds_1 rfl rfl ?_
    refine go_callVp cvX9_131 os_58 (sm_isGuest hP) (by omega) rfl rfl (Nat.le_of_ble_eq_true rfl) dX9_minds_2 ?_
    rw [hi]
    refine go_if_eq (tgt := 16) dX9_minds_5 (by decide) (fun c5 => ?_) (fun c5 => ?_)
    · exact absurd c5 bt0
    · refine go_aload_n dX9_minds_8 rfl rfl ?_
      refine go_iload_n dX9_minds_9 rfl rfl ?_
      refine go_callVi cvX9_186 os_58 (sm_mindsOf h.2.1 hI.2.1.1 hf) (by omega) rfl rfl (Nat.le_of_ble_eq_true rfl) dX9_minds_10 (fun σ1 q1 => ?_)
      refine go_goto (tgt := 18) dX9_minds_13 (by decide) ?_
      refine go_iret rfl dX9_minds_18 ?_
      exact ⟨by unfold aMinds; rw [hi], h.q q1⟩
set_option maxHeartbeats 1000000 in
theorem sm_host {Γ : Gm} {σ : Mm} {X : Xs} (hh : hmF (xP X) ((pD (xP X) + 1) ^ pG (xP X)) = hostM (xP X)) (h : RM σ X) : Sp Γ 4 mX9_host [rf Γ 58] σ (aI (aHost X) (fun σ' => RM σ' X ∧ FrM σ σ')) := by
  refine sp_in (L := [some (rf Γ 58)]) rfl (Nat.le_of_ble_eq_true rfl) rfl ?_
  have hP := h.2.1.1
  refine go_aload_n dX9_host_0 rfl rfl ?_
  refine go_callVp cvX9_121 os_58 (sm_lacks hP) (by omega) rfl rfl (Nat.le_of_ble_eq_true rfl) dX9_host_1 ?_
  refine go_if_eq (tgt := 12) dX9_host_4 (by decide) (fun c4 => ?_) (fun c4 => ?_)
  · have c4 : ¬ pD (xP X) = 0 := by have := bI_eq0.mp c4; simpa using this
    refine go_aload_n dX9_host_12 rfl rfl ?_
    refine go_callVi cvX9_189 os_58 (sm_hostOf hP) (by omega) rfl rfl (Nat.le_of_ble_eq_true rfl) dX9_host_13 (fun σ1 q1 => ?_)
    refine go_iret rfl dX9_host_16 ?_
    exact ⟨by unfold aHost; rw [if_neg c4, hh], h.q q1.om⟩
  · have c4 : pD (xP X) = 0 := by have := bI_ne0.mp c4; simpa using this
    refine go_bipush (v := (-103)) dX9_host_7 rfl ?_
    refine go_goto (tgt := 16) dX9_host_9 (by decide) ?_
    refine go_iret rfl dX9_host_16 ?_
    exact ⟨by unfold aHost; rw [if_pos c4], h.q OM.rf⟩
set_option maxHeartbeats 1000000 in
theorem sm_fewest {Γ : Gm} {σ : Mm} {X : Xs} {a : Int32} (h : RM σ X) : Sp Γ 3 mX9_fewest [rf Γ 58, .int a] σ (aP (aFewest X a) σ) := by
  refine sp_in (L := [some (rf Γ 58), some (.int a)]) rfl (Nat.le_of_ble_eq_true rfl) rfl ?_
  have hP := h.2.1.1
  have hbx := inR_ix (k := 1) (a := a) (by omega)
  cases hi : ix 2 a with
  | none =>
    rw [hi] at hbx
    refine go_iload_n dX9_fewest_0 rfl rfl ?_
    refine go_i2l dX9_fewest_1 ?_
    refine go_lconst (v := 0) dX9_fewest_2 rfl ?_
    refine go_lconst (v := 1) dX9_fewest_3 rfl ?_
    refine go_callSp csX9_64 (sm_in (lo := nI 0) (hi := nI 1) rfl rfl rfl) (by omega) rfl rfl (Nat.le_of_ble_eq_true rfl) dX9_fewest_4 ?_
    rw [hbx]
    refine go_if_ne (tgt := 13) dX9_fewest_7 (by decide) (fun c7 => ?_) (fun c7 => ?_)
    · exact absurd rfl c7
    · refine go_bipush (v := (-102)) dX9_fewest_10 rfl ?_
      refine go_iret rfl dX9_fewest_12 ?_
      exact ⟨by unfold aFewest; rw [hi], rfl⟩
  | some w =>
    obtain ⟨hw, rfl⟩ := ix_some (by omega) hi
    rw [hi] at hbx
    refine go_iload_n dX9_fewest_0 rfl rfl ?_
    refine go_i2l dX9_fewest_1 ?_
    refine go_lconst (v := 0) dX9_fewest_2 rfl ?_
    refine go_lconst (v := 1) dX9_fewest_3 rfl ?_
    refine go_callSp csX9_64 (sm_in (lo := nI 0) (hi := nI 1) rfl rfl rfl) (by omega) rfl rfl (Nat.le_of_ble_eq_true rfl) dX9_fewest_4 ?_
    rw [hbx]
    refine go_if_ne (tgt := 13) dX9_fewest_7 (by decide) (fun c7 => ?_) (fun c7 => ?_)
    · refine go_aload_n dX9_fewest_13 rfl rfl ?_
      refine go_callVp cvX9_121 os_58 (sm_lacks hP) (by omega) rfl rfl (Nat.le_of_ble_eq_true rfl) dX9_fewest_14 ?_
      refine go_if_eq (tgt := 25) dX9_fewest_17 (by decide) (fun c17 => ?_) (fun c17 => ?_)
      · have c17 : ¬ pD (xP X) = 0 := by have := bI_eq0.mp c17; simpa using this
        refine go_aload_n dX9_fewest_25 rfl rfl ?_
        refine go_iload_n dX9_fewest_26 rfl rfl ?_
        refine go_callVp cvX9_195 os_58 (sm_fewestOf hP hw rfl) (by omega) rfl rfl (Nat.le_of_ble_eq_true rfl) dX9_fewest_27 ?_
        refine go_iret rfl dX9_fewest_30 ?_
        exact ⟨by unfold aFewest; rw [hi]; simp only [if_neg c17], rfl⟩
      · have c17 : pD (xP X) = 0 := by have := bI_ne0.mp c17; simpa using this
        refine go_bipush (v := (-103)) dX9_fewest_20 rfl ?_
        refine go_goto (tgt := 30) dX9_fewest_22 (by decide) ?_
        refine go_iret rfl dX9_fewest_30 ?_
        exact ⟨by unfold aFewest; rw [hi]; simp only [if_pos c17], rfl⟩
    · exact absurd c7 bt0
set_option maxHeartbeats 1000000 in
theorem sm_urges {Γ : Gm} {σ : Mm} {X : Xs} {a b v : Int32} (h : RM σ X) : Sp Γ 5 mX9_urges [rf Γ 58, .int a, .int b, .int v] σ (aI (aUrges X a b v) (fun σ' => RM σ' X ∧ FrM σ σ')) := by
  refine sp_in (L := [some (rf Γ 58), some (.int a), some (.int b), some (.int v), none]) rfl (Nat.le_of_ble_eq_true rfl) rfl ?_
  have hP := h.2.1.1
  have hG := hP.2.1.2
  have hD := hP.1.2
  cases hi : ix (pD (xP X)) a with
  | none =>
    refine go_aload_n dX9_urges_0 rfl rfl ?_
    refine go_iload_n dX9_urges_1 rfl rfl ?_
    refine go_callVp cvX9_112 os_58 (sm_isDish hP) (by omega) rfl rfl (Nat.le_of_ble_eq_true rfl) dX9_urges_2 ?_
    rw [hi]
    refine go_if_eq (tgt := 16) dX9_urges_5 (by decide) (fun c5 => ?_) (fun c5 => ?_)
    · refine go_bipush (v := (-101)) dX9_urges_16 rfl ?_
      refine go_iret rfl dX9_urges_18 ?_
      exact ⟨by unfold aUrges; rw [hi], h.q OM.rf⟩
    · exact absurd rfl c5
  | some d =>
    obtain ⟨hd, rfl⟩ := ix_some (by omega) hi
    cases hj : ix (pG (xP X)) b with
    | none =>
      refine go_aload_n dX9_urges_0 rfl rfl ?_
      refine go_iload_n dX9_urges_1 rfl rfl ?_
      refine go_callVp cvX9_112 os_58 (sm_isDish hP) (by omega) rfl rfl (Nat.le_of_ble_eq_true rfl) dX9_urges_2 ?_
      rw [hi]
      refine go_if_eq (tgt := 16) dX9_urges_5 (by decide) (fun c5 => ?_) (fun c5 => ?_)
      · exact absurd c5 bt0
      · refine go_aload_n dX9_urges_8 rfl rfl ?_
        refine go_iload_n dX9_urges_9 rfl rfl ?_
        refine go_callVp cvX9_131 os_58 (sm_isGuest hP) (by omega) rfl rfl (Nat.le_of_ble_eq_true rfl) dX9_urges_10 ?_
        rw [hj]
        refine go_if_ne (tgt := 19) dX9_urges_13 (by decide) (fun c13 => ?_) (fun c13 => ?_)
        · exact absurd rfl c13
        · refine go_bipush (v := (-101)) dX9_urges_16 rfl ?_
          refine go_iret rfl dX9_urges_18 ?_
          exact ⟨by unfold aUrges; rw [hi, hj], h.q OM.rf⟩
    | some f =>
      obtain ⟨hf, rfl⟩ := ix_some (by omega) hj
      refine go_aload_n dX9_urges_0 rfl rfl ?_
      refine go_iload_n dX9_urges_1 rfl rfl ?_
      refine go_callVp cvX9_112 os_58 (sm_isDish hP) (by omega) rfl rfl (Nat.le_of_ble_eq_true rfl) dX9_urges_2 ?_
      rw [hi]
      refine go_if_eq (tgt := 16) dX9_urges_5 (by decide) (fun c5 => ?_) (fun c5 => ?_)
      · exact absurd c5 bt0
      · refine go_aload_n dX9_urges_8 rfl rfl ?_
        refine go_iload_n dX9_urges_9 rfl rfl ?_
        refine go_callVp cvX9_131 os_58 (sm_isGuest hP) (by omega) rfl rfl (Nat.le_of_ble_eq_true rfl) dX9_urges_10 ?_
        rw [hj]
        refine go_if_ne (tgt := 19) dX9_urges_13 (by decide) (fun c13 => ?_) (fun c13 => ?_)
        · refine go_iload_n dX9_urges_19 rfl rfl ?_
          refine go_i2l dX9_urges_20 ?_
          refine go_lconst (v := 1) dX9_urges_21 rfl ?_
          refine go_ldc2 (v := 5) dX9_urges_22 klX9_198 ?_
          refine go_callSp csX9_64 (sm_in (lo := nI 1) (hi := nI 5) rfl rfl rfl) (by omega) rfl rfl (Nat.le_of_ble_eq_true rfl) dX9_urges_25 ?_
          refine go_if_ne (tgt := 34) dX9_urges_28 (by decide) (fun c28 => ?_) (fun c28 => ?_)
          · refine go_aload_n dX9_urges_34 rfl rfl ?_
            refine go_aload_n dX9_urges_35 rfl rfl ?_
            refine go_getI flX9_93 fs_58_8 dX9_urges_36 ?_
            rw [h.2.1.2.1]
            refine go_putI fwX9_139 fs_58_18 dX9_urges_39 ?_
            refine go_aload_n dX9_urges_42 rfl rfl ?_
            refine go_iload_n dX9_urges_43 rfl rfl ?_
            refine go_putI fwX9_142 fs_58_19 dX9_urges_44 ?_
            refine go_iconst (v := nI 0) dX9_urges_47 rfl ?_
            refine go_istore (L' := [_, _, _, _, _]) dX9_urges_48 (by decide) rfl rfl ?_
            have ho : OM σ (stI (stI σ 58 18 (pLo (xP X))) 58 19 (nI d)) := (OM.rf.s58 (by omega)).s58 (by omega)
            refine go_mono (fun v σ' q => ⟨?_, h.q (ho.trans q.2)⟩) (lp_urgM (hP.om ho) hf 21 0 _ rfl OM.rf (by rw [stI_ne (by omega), stI_at]) stI_at)
            rw [q.1]
            unfold aUrges
            rw [hi, hj]
            simp only [bI_ne0.mp c28, if_true]
          · refine go_bipush (v := (-102)) dX9_urges_31 rfl ?_
            refine go_iret rfl dX9_urges_33 ?_
            exact ⟨by unfold aUrges; rw [hi, hj]; simp only [bI_eq0.mp c28]; rfl, h.q OM.rf⟩
        · exact absurd c13 bt0
