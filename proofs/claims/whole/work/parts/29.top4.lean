/-! the class's public methods (4) -/
theorem go_callSjp {Γ : Gm} {n : Nat} {M : Md} {Q : Option Value → Mm → Prop} {pc : Nat} {L : List (Option Value)} {st : List Value} {σ : Mm} {M' : Md} {As rest : List Value} {idx np n' : Nat} (w : CS M.1.cls idx M' np) {r : Int64} (sp : Sp Γ n' M' As σ (aJ r (fun σ' => σ' = σ))) (hn : n' + 1 ≤ n) (hA : As.length = np) (hst : st = As.reverse ++ rest) (hr : (rest.map fun v => v.category).sum ≤ 8) (d : decode M.2.1 pc = .ok (.invokestatic idx, 3)) (kk : Go Γ n M Q (pc + 3) L (.long r :: rest) σ) : Go Γ n M Q pc L st σ := go_callSj w sp hn hA hst hr d (fun σ' h => by subst h; exact kk)
set_option maxHeartbeats 2000000 in
theorem sc_urges {Γ : Gm} {σ : Mm} {X : Xs} {N : Nat} {a b v : Int32} (hI : XI N X) (h : RC σ X) : Sp Γ 5 mX8_urges [rf Γ 0, .int a, .int b, .int v] σ (aI (aUrges X a b v) (fun σ' => RC σ' X ∧ FrC σ σ')) := by
  refine sp_in (L := [some (rf Γ 0), some (.int a), some (.int b), some (.int v)]) rfl (Nat.le_of_ble_eq_true rfl) rfl ?_
  have hP := h.2.1.1
  have hG := hP.2.1.2
  have hD := hP.1.2
  cases hi : ix (pD (xP X)) a with
  | none =>
    refine go_aload_n dX8_urges_0 rfl rfl ?_
    refine go_iload_n dX8_urges_1 rfl rfl ?_
    refine go_callVp cvX8_105 os_0 (sp_noDish hP) (by omega) rfl rfl (Nat.le_of_ble_eq_true rfl) dX8_urges_2 ?_
    rw [hi]
    refine go_if_ne (tgt := 16) dX8_urges_5 (by decide) (fun c5 => ?_) (fun c5 => ?_)
    · refine go_bipush (v := (-101)) dX8_urges_16 rfl ?_
      refine go_iret rfl dX8_urges_18 ?_
      exact ⟨by unfold aUrges; rw [hi], h, FrC.rf⟩
    · exact absurd c5 (by decide)
  | some d =>
    obtain ⟨hd, rfl⟩ := ix_some (by omega) hi
    cases hj : ix (pG (xP X)) b with
    | none =>
      refine go_aload_n dX8_urges_0 rfl rfl ?_
      refine go_iload_n dX8_urges_1 rfl rfl ?_
      refine go_callVp cvX8_105 os_0 (sp_noDish hP) (by omega) rfl rfl (Nat.le_of_ble_eq_true rfl) dX8_urges_2 ?_
      rw [hi]
      refine go_if_ne (tgt := 16) dX8_urges_5 (by decide) (fun c5 => ?_) (fun c5 => ?_)
      · exact absurd rfl c5
      · refine go_aload_n dX8_urges_8 rfl rfl ?_
        refine go_iload_n dX8_urges_9 rfl rfl ?_
        refine go_callVp cvX8_136 os_0 (sp_noGuest hP) (by omega) rfl rfl (Nat.le_of_ble_eq_true rfl) dX8_urges_10 ?_
        rw [hj]
        refine go_if_eq (tgt := 19) dX8_urges_13 (by decide) (fun c13 => ?_) (fun c13 => ?_)
        · exact absurd c13 (by decide)
        · refine go_bipush (v := (-101)) dX8_urges_16 rfl ?_
          refine go_iret rfl dX8_urges_18 ?_
          exact ⟨by unfold aUrges; rw [hi, hj], h, FrC.rf⟩
    | some f =>
      obtain ⟨hf, rfl⟩ := ix_some (by omega) hj
      refine go_aload_n dX8_urges_0 rfl rfl ?_
      refine go_iload_n dX8_urges_1 rfl rfl ?_
      refine go_callVp cvX8_105 os_0 (sp_noDish hP) (by omega) rfl rfl (Nat.le_of_ble_eq_true rfl) dX8_urges_2 ?_
      rw [hi]
      refine go_if_ne (tgt := 16) dX8_urges_5 (by decide) (fun c5 => ?_) (fun c5 => ?_)
      · exact absurd rfl c5
      · refine go_aload_n dX8_urges_8 rfl rfl ?_
        refine go_iload_n dX8_urges_9 rfl rfl ?_
        refine go_callVp cvX8_136 os_0 (sp_noGuest hP) (by omega) rfl rfl (Nat.le_of_ble_eq_true rfl) dX8_urges_10 ?_
        rw [hj]
        refine go_if_eq (tgt := 19) dX8_urges_13 (by decide) (fun c13 => ?_) (fun c13 => ?_)
        · refine go_iload_n dX8_urges_19 rfl rfl ?_
          refine go_iconst (v := nI 1) dX8_urges_20 rfl ?_
          refine go_iconst (v := nI 5) dX8_urges_21 rfl ?_
          refine go_callSp csX8_62 sp_isOutside (by omega) rfl rfl (Nat.le_of_ble_eq_true rfl) dX8_urges_22 ?_
          refine go_if_eq (tgt := 31) dX8_urges_25 (by decide) (fun c25 => ?_) (fun c25 => ?_)
          · have c25 : inR (nI 1) (nI 5) v = true := by have := bI_eq0.mp c25; simpa using this
            refine go_aload_n dX8_urges_31 rfl rfl ?_
            refine go_getR flX8_51 fs_0_5 dX8_urges_32 ?_
            refine go_iload_n dX8_urges_35 rfl rfl ?_
            refine go_iload_n dX8_urges_36 rfl rfl ?_
            refine go_iload_n dX8_urges_37 rfl rfl ?_
            refine go_callVi cvX8_212 os_27 (sp_leastUrge (h.su hI) hI.2.1.1 hd hf) (by omega) rfl rfl (Nat.le_of_ble_eq_true rfl) dX8_urges_38 (fun σ1 q1 => ?_)
            refine go_iret rfl dX8_urges_41 ?_
            exact ⟨by unfold aUrges; rw [hi, hj]; simp only [c25]; rfl, h.of hI q1.of, q1.of.frc⟩
          · have c25 : inR (nI 1) (nI 5) v = false := by have := bI_ne0.mp c25; simpa using this
            refine go_bipush (v := (-102)) dX8_urges_28 rfl ?_
            refine go_iret rfl dX8_urges_30 ?_
            exact ⟨by unfold aUrges; rw [hi, hj]; simp only [c25]; rfl, h, FrC.rf⟩
        · exact absurd rfl c13
theorem RC.log {σ σ' : Mm} {X : Xs} {N : Nat} {E : Ev} (hI : XI N X) (h : RC σ X) (ho : ∀ a, a < 23 ∨ 26 < a → σ'.1 a = σ.1 a) (hE : LI σ' 23 (pG (xP X)) E) : RC σ' (setE X E) := by
  obtain ⟨⟨a1, a2⟩, ⟨b1, b2, b3⟩, c, d, ⟨e1, e2⟩, f⟩ := h
  have hG := b1.2.1.2
  exact ⟨⟨by rw [ho 1 (by omega)]; exact a1, fun k hk => by rw [ho 2 (by omega)]; exact a2 k hk⟩, ⟨b1.eq (fun a h1 h2 => ho a (by omega)), by rw [ho 3 (by omega)]; exact b2, fun g hg => by have hg' : g < pG (xP X) := hg; rw [ho _ (by omega)]; exact b3 g hg⟩, c.eq (fun a h1 h2 => ho a (by omega)), hE, ⟨by rw [ho 0 (by omega)]; exact e1, by rw [ho 0 (by omega)]; exact e2⟩, RK.eq (K := xK X) (c := xC X) (RC.k5 (σ := σ) (X := X) hI) f (fun a h1 h2 => ho a (by omega))⟩
set_option maxHeartbeats 2000000 in
theorem sc_evening {Γ : Gm} {σ : Mm} {X : Xs} {N : Nat} {a b v : Int32} (hI : XI N X) (h : RC σ X) : Sp Γ 2 mX8_evening [rf Γ 0, .int a, .int b, .int v] σ (aI (aEvening X a b v) (fun σ' => RC σ' (tEvening X a b v) ∧ FrC σ σ')) := by
  refine sp_in (L := [some (rf Γ 0), some (.int a), some (.int b), some (.int v)]) rfl (Nat.le_of_ble_eq_true rfl) rfl ?_
  have hP := h.2.1.1
  have hG := hP.2.1.2
  have hD := hP.1.2
  cases hi : ix (pG (xP X)) a with
  | none =>
    refine go_aload_n dX8_evening_0 rfl rfl ?_
    refine go_iload_n dX8_evening_1 rfl rfl ?_
    refine go_callVp cvX8_136 os_0 (sp_noGuest hP) (by omega) rfl rfl (Nat.le_of_ble_eq_true rfl) dX8_evening_2 ?_
    rw [hi]
    refine go_if_ne (tgt := 29) dX8_evening_5 (by decide) (fun c5 => ?_) (fun c5 => ?_)
    · refine go_bipush (v := (-101)) dX8_evening_29 rfl ?_
      refine go_iret rfl dX8_evening_31 ?_
      exact ⟨by unfold aEvening; rw [hi], by unfold tEvening; rw [hi]; exact ⟨h, FrC.rf⟩⟩
    · exact absurd c5 (by decide)
  | some f =>
    obtain ⟨hf, rfl⟩ := ix_some (by omega) hi
    cases hj : ix (pG (xP X)) b with
    | none =>
      refine go_aload_n dX8_evening_0 rfl rfl ?_
      refine go_iload_n dX8_evening_1 rfl rfl ?_
      refine go_callVp cvX8_136 os_0 (sp_noGuest hP) (by omega) rfl rfl (Nat.le_of_ble_eq_true rfl) dX8_evening_2 ?_
      rw [hi]
      refine go_if_ne (tgt := 29) dX8_evening_5 (by decide) (fun c5 => ?_) (fun c5 => ?_)
      · exact absurd rfl c5
      · refine go_aload_n dX8_evening_8 rfl rfl ?_
        refine go_iload_n dX8_evening_9 rfl rfl ?_
        refine go_callVp cvX8_136 os_0 (sp_noGuest hP) (by omega) rfl rfl (Nat.le_of_ble_eq_true rfl) dX8_evening_10 ?_
        rw [hj]
        refine go_if_ne (tgt := 29) dX8_evening_13 (by decide) (fun c13 => ?_) (fun c13 => ?_)
        · refine go_bipush (v := (-101)) dX8_evening_29 rfl ?_
          refine go_iret rfl dX8_evening_31 ?_
          exact ⟨by unfold aEvening; rw [hi, hj], by unfold tEvening; rw [hi, hj]; exact ⟨h, FrC.rf⟩⟩
        · exact absurd c13 (by decide)
    | some g =>
      obtain ⟨hg, rfl⟩ := ix_some (by omega) hj
      have hE := h.2.2.2.1
      have go : ¬ (v ≠ -1 ∧ ix (pD (xP X)) v = none) → Go Γ 2 mX8_evening (aI (aEvening X (nI f) (nI g) v) (fun σ' => RC σ' (tEvening X (nI f) (nI g) v) ∧ FrC σ σ')) 32 [some (rf Γ 0), some (.int (nI f)), some (.int (nI g)), some (.int v)] [] σ := by
        intro hn
        have e4 := hE.2.1
        refine go_aload_n dX8_evening_32 rfl rfl ?_
        refine go_getR flX8_42 fs_0_4 dX8_evening_33 ?_
        refine go_getI flX8_87 fs_23_3 dX8_evening_36 ?_
        rw [hE.1]
        refine go_iconst (v := nI 4) dX8_evening_39 rfl ?_
        refine go_icmp_lt (tgt := 46) dX8_evening_40 (by decide) (fun c40 => ?_) (fun c40 => ?_)
        · rw [nI_ltI (by omega) (by omega)] at c40
          refine go_aload_n dX8_evening_46 rfl rfl ?_
          refine go_getR flX8_42 fs_0_4 dX8_evening_47 ?_
          refine go_iload_n dX8_evening_50 rfl rfl ?_
          refine go_iload_n dX8_evening_51 rfl rfl ?_
          refine go_iload_n dX8_evening_52 rfl rfl ?_
          refine go_callVv cvX8_216 os_23 (sp_add (show (xE X).1 < 4 from c40) hE.1) (by omega) rfl rfl (Nat.le_of_ble_eq_true rfl) dX8_evening_53 (fun σ1 q1 => ?_)
          obtain ⟨⟨r1, r2, r3⟩, r4, r5, r6, r7⟩ := q1
          refine go_aload_n dX8_evening_56 rfl rfl ?_
          refine go_getR flX8_42 fs_0_4 dX8_evening_57 ?_
          refine go_getI flX8_87 fs_23_3 dX8_evening_60 ?_
          rw [r5]
          refine go_iret rfl dX8_evening_63 ?_
          refine ⟨by unfold aEvening; rw [hi, hj]; simp only [if_neg hn, if_pos c40], ?_, ⟨fun x hx => r6 x (by omega), fun x hx => by rw [r7]⟩⟩
          unfold tEvening
          rw [hi, hj]
          simp only [if_neg hn, if_pos c40]
          refine h.log hI r6 ⟨r5, by show (xE X).1 + 1 ≤ 4; omega, fun e he => ?_⟩
          have he' : e < (xE X).1 + 1 := he
          show σ1.1 24 e = nI (updN (xE X).2.1 (xE X).1 f e) ∧ updN (xE X).2.1 (xE X).1 f e < _ ∧ σ1.1 25 e = nI (updN (xE X).2.2.1 (xE X).1 g e) ∧ updN (xE X).2.2.1 (xE X).1 g e < _ ∧ σ1.1 26 e = upd (xE X).2.2.2 (xE X).1 v e
          by_cases q : e = (xE X).1
          · subst q
            simp only [updN, upd, if_true]
            exact ⟨r1, hf, r2, hg, r3⟩
          · simp only [updN, upd, if_neg q]
            rw [r4 24 e (by omega) q, r4 25 e (by omega) q, r4 26 e (by omega) q]
            exact hE.2.2 e (by omega)
        · rw [nI_ltI (by omega) (by omega)] at c40
          refine go_bipush (v := (-104)) dX8_evening_43 rfl ?_
          refine go_iret rfl dX8_evening_45 ?_
          exact ⟨by unfold aEvening; rw [hi, hj]; simp only [if_neg hn, if_neg c40], by unfold tEvening; rw [hi, hj]; simp only [if_neg hn, if_neg c40]; exact ⟨h, FrC.rf⟩⟩
      refine go_aload_n dX8_evening_0 rfl rfl ?_
      refine go_iload_n dX8_evening_1 rfl rfl ?_
      refine go_callVp cvX8_136 os_0 (sp_noGuest hP) (by omega) rfl rfl (Nat.le_of_ble_eq_true rfl) dX8_evening_2 ?_
      rw [hi]
      refine go_if_ne (tgt := 29) dX8_evening_5 (by decide) (fun c5 => ?_) (fun c5 => ?_)
      · exact absurd rfl c5
      · refine go_aload_n dX8_evening_8 rfl rfl ?_
        refine go_iload_n dX8_evening_9 rfl rfl ?_
        refine go_callVp cvX8_136 os_0 (sp_noGuest hP) (by omega) rfl rfl (Nat.le_of_ble_eq_true rfl) dX8_evening_10 ?_
        rw [hj]
        refine go_if_ne (tgt := 29) dX8_evening_13 (by decide) (fun c13 => ?_) (fun c13 => ?_)
        · exact absurd rfl c13
        · refine go_iload_n dX8_evening_16 rfl rfl ?_
          refine go_iconst (v := (-1)) dX8_evening_17 rfl ?_
          refine go_icmp_eq (tgt := 32) dX8_evening_18 (by decide) (fun c18 => ?_) (fun c18 => ?_)
          · exact go (fun z => z.1 c18)
          · refine go_aload_n dX8_evening_21 rfl rfl ?_
            refine go_iload_n dX8_evening_22 rfl rfl ?_
            refine go_callVp cvX8_105 os_0 (sp_noDish hP) (by omega) rfl rfl (Nat.le_of_ble_eq_true rfl) dX8_evening_23 ?_
            refine go_if_eq (tgt := 32) dX8_evening_26 (by decide) (fun c26 => ?_) (fun c26 => ?_)
            · exact go (fun z => by rw [z.2] at c26; exact absurd c26 (by decide))
            · refine go_bipush (v := (-101)) dX8_evening_29 rfl ?_
              refine go_iret rfl dX8_evening_31 ?_
              have hn : v ≠ -1 ∧ ix (pD (xP X)) v = none := ⟨c18, by have := bI_ne0.mp c26; cases hz : ix (pD (xP X)) v with | none => rfl | some z => rw [hz] at this; cases this⟩
              exact ⟨by unfold aEvening; rw [hi, hj]; simp only [if_pos hn], by unfold tEvening; rw [hi, hj]; simp only [if_pos hn]; exact ⟨h, FrC.rf⟩⟩
set_option maxHeartbeats 2000000 in
theorem sc_forget {Γ : Gm} {σ : Mm} {X : Xs} {N : Nat} (hI : XI N X) (h : RC σ X) : Sp Γ 1 mX8_forget [rf Γ 0] σ (aI (aForget X) (fun σ' => RC σ' (tForget X) ∧ FrC σ σ')) := by
  refine sp_in (L := [some (rf Γ 0), none]) rfl (Nat.le_of_ble_eq_true rfl) rfl ?_
  refine go_aload_n dX8_forget_0 rfl rfl ?_
  refine go_getR flX8_42 fs_0_4 dX8_forget_1 ?_
  refine go_getI flX8_87 fs_23_3 dX8_forget_4 ?_
  rw [h.2.2.2.1.1]
  refine go_istore_n (L' := [_, _]) dX8_forget_7 rfl (by decide) rfl rfl ?_
  refine go_aload_n dX8_forget_8 rfl rfl ?_
  refine go_getR flX8_42 fs_0_4 dX8_forget_9 ?_
  refine go_iconst (v := nI 0) dX8_forget_12 rfl ?_
  refine go_putI fwX8_87 fs_23_3 dX8_forget_13 ?_
  refine go_iload_n dX8_forget_16 rfl rfl ?_
  refine go_iret rfl dX8_forget_17 ?_
  exact ⟨rfl, h.log hI (fun x hx => funext fun y => stI_ne (Or.inl (by omega))) ⟨stI_at, Nat.zero_le _, fun e he => absurd he (Nat.not_lt_zero e)⟩, FrC.rf.st (by omega)⟩
set_option maxHeartbeats 2000000 in
theorem lp_only {Γ : Gm} {σ : Mm} {x : Int32} : ∀ (m k : Nat), k + m = 10 → Go Γ 1 mX8_onlyLoath (aP (oneB x m k) σ) 2 [some (.int x), some (.int (nI k))] [] σ := by
  intro m
  induction m with
  | zero =>
    intro k hk
    have e : k = 10 := by omega
    subst e
    refine go_iload_n dX8_onlyLoath_2 rfl rfl ?_
    refine go_bipush (v := nI 10) dX8_onlyLoath_3 rfl ?_
    refine go_icmp_ge (tgt := 23) dX8_onlyLoath_5 (by decide) (fun c5 => ?_) (fun c5 => ?_)
    · refine go_iconst (v := (-1)) dX8_onlyLoath_23 rfl ?_
      refine go_iret rfl dX8_onlyLoath_24 ?_
      exact ⟨rfl, rfl⟩
    · exact absurd (Int32.le_refl _) c5
  | succ m ih =>
    intro k hk
    refine go_iload_n dX8_onlyLoath_2 rfl rfl ?_
    refine go_bipush (v := nI 10) dX8_onlyLoath_3 rfl ?_
    refine go_icmp_ge (tgt := 23) dX8_onlyLoath_5 (by decide) (fun c5 => ?_) (fun c5 => ?_)
    · exact absurd c5 (nI_ge (by omega) (by omega))
    · refine go_iload_n dX8_onlyLoath_8 rfl rfl ?_
      refine go_iconst (v := nI 1) dX8_onlyLoath_9 rfl ?_
      refine go_iload_n dX8_onlyLoath_10 rfl rfl ?_
      refine go_ishl dX8_onlyLoath_11 ?_
      refine go_icmp_ne (tgt := 17) dX8_onlyLoath_12 (by decide) (fun c12 => ?_) (fun c12 => ?_)
      · refine go_iinc (v := nI (k + 1)) (L' := [_, _]) dX8_onlyLoath_17 rfl (nI_1 _) (by decide) rfl rfl ?_
        refine go_goto (tgt := 2) dX8_onlyLoath_20 (by decide) ?_
        rw [show oneB x (m + 1) k = oneB x m (k + 1) by conv => lhs; unfold oneB; rw [if_neg c12]]
        exact ih (k + 1) (by omega)
      · refine go_iload_n dX8_onlyLoath_15 rfl rfl ?_
        refine go_iret rfl dX8_onlyLoath_16 ?_
        exact ⟨by unfold oneB; rw [if_pos c12], rfl⟩
set_option maxHeartbeats 2000000 in
theorem sp_only {Γ : Gm} {σ : Mm} {x : Int32} : Sp Γ 1 mX8_onlyLoath [.int x] σ (aP (oneB x 10 0) σ) := by
  refine sp_in (L := [some (.int x), none]) rfl (Nat.le_of_ble_eq_true rfl) rfl ?_
  refine go_iconst (v := nI 0) dX8_onlyLoath_0 rfl ?_
  refine go_istore_n (L' := [_, _]) dX8_onlyLoath_1 rfl (by decide) rfl rfl ?_
  exact lp_only 10 0 rfl
set_option maxHeartbeats 2000000 in
theorem sc_fits {Γ : Gm} {σ : Mm} {X : Xs} {N : Nat} {a : Int32} (hI : XI N X) (h : RC σ X) : Sp Γ 6 mX8_fits [rf Γ 0, .int a] σ (aI (aFits X a) (fun σ' => RC σ' X ∧ FrC σ σ')) := by
  refine sp_in (L := [some (rf Γ 0), some (.int a), none]) rfl (Nat.le_of_ble_eq_true rfl) rfl ?_
  have hP := h.2.1.1
  have hbx := inR_ix (k := 1) (a := a) (by omega)
  cases hb : ix 2 a with
  | none =>
    rw [hb] at hbx
    refine go_iload_n dX8_fits_0 rfl rfl ?_
    refine go_iconst (v := nI 0) dX8_fits_1 rfl ?_
    refine go_iconst (v := nI 1) dX8_fits_2 rfl ?_
    refine go_callSp csX8_62 sp_isOutside (by omega) rfl rfl (Nat.le_of_ble_eq_true rfl) dX8_fits_3 ?_
    rw [hbx]
    refine go_if_eq (tgt := 12) dX8_fits_6 (by decide) (fun c6 => ?_) (fun c6 => ?_)
    · exact absurd c6 (by decide)
    · refine go_bipush (v := (-102)) dX8_fits_9 rfl ?_
      refine go_iret rfl dX8_fits_11 ?_
      exact ⟨by unfold aFits; rw [hb], h, FrC.rf⟩
  | some w =>
    obtain ⟨hw, rfl⟩ := ix_some (by omega) hb
    rw [hb] at hbx
    refine go_iload_n dX8_fits_0 rfl rfl ?_
    refine go_iconst (v := nI 0) dX8_fits_1 rfl ?_
    refine go_iconst (v := nI 1) dX8_fits_2 rfl ?_
    refine go_callSp csX8_62 sp_isOutside (by omega) rfl rfl (Nat.le_of_ble_eq_true rfl) dX8_fits_3 ?_
    rw [hbx]
    refine go_if_eq (tgt := 12) dX8_fits_6 (by decide) (fun c6 => ?_) (fun c6 => ?_)
    · refine go_aload_n dX8_fits_12 rfl rfl ?_
      refine go_callVp cvX8_124 os_0 (sp_noCard hP) (by omega) rfl rfl (Nat.le_of_ble_eq_true rfl) dX8_fits_13 ?_
      refine go_if_eq (tgt := 22) dX8_fits_16 (by decide) (fun c16 => ?_) (fun c16 => ?_)
      · refine go_aload_n dX8_fits_22 rfl rfl ?_
        refine go_getR flX8_51 fs_0_5 dX8_fits_23 ?_
        refine go_aload_n dX8_fits_26 rfl rfl ?_
        refine go_getR flX8_42 fs_0_4 dX8_fits_27 ?_
        refine go_callVi cvX8_220 os_27 (sp_fitting (h.su hI) hI.2.1.1 h.2.2.2.1) (by omega) rfl rfl (Nat.le_of_ble_eq_true rfl) dX8_fits_30 (fun σ1 q1 => ?_)
        refine go_istore_n (L' := [_, _, _]) dX8_fits_33 rfl (by decide) rfl rfl ?_
        refine go_iload_n dX8_fits_34 rfl rfl ?_
        refine go_if_ne (tgt := 42) dX8_fits_35 (by decide) (fun c35 => ?_) (fun c35 => ?_)
        · refine go_iload_n dX8_fits_42 rfl rfl ?_
          refine go_callSp csX8_224 sp_only (by omega) rfl rfl (Nat.le_of_ble_eq_true rfl) dX8_fits_43 ?_
          refine go_iret rfl dX8_fits_46 ?_
          have hw0 : ¬ w = 0 := fun z => c35 (by rw [z]; rfl)
          exact ⟨by unfold aFits; rw [hb]; simp only [if_neg (show ¬ pD (xP X) = 0 by have := bI_eq0.mp c16; simpa using this), if_neg hw0], h.of hI q1.of, q1.of.frc⟩
        · refine go_iload_n dX8_fits_38 rfl rfl ?_
          refine go_goto (tgt := 46) dX8_fits_39 (by decide) ?_
          refine go_iret rfl dX8_fits_46 ?_
          have hw0 : w = 0 := (nI_z (by omega)).mp c35
          exact ⟨by unfold aFits; rw [hb]; simp only [if_neg (show ¬ pD (xP X) = 0 by have := bI_eq0.mp c16; simpa using this), if_pos hw0], h.of hI q1.of, q1.of.frc⟩
      · refine go_bipush (v := (-103)) dX8_fits_19 rfl ?_
        refine go_iret rfl dX8_fits_21 ?_
        exact ⟨by unfold aFits; rw [hb]; simp only [if_pos (show pD (xP X) = 0 by have := bI_ne0.mp c16; simpa using this)], h, FrC.rf⟩
    · exact absurd rfl c6
set_option maxHeartbeats 2000000 in
theorem sc_evenings {Γ : Gm} {σ : Mm} {X : Xs} {N : Nat} {a b v : Int32} (hI : XI N X) (h : RC σ X) : Sp Γ 6 mX8_evenings [rf Γ 0, .int a, .int b, .int v] σ (aI (aEvenings X a b v) (fun σ' => RC σ' X ∧ FrC σ σ')) := by
  refine sp_in (L := [some (rf Γ 0), some (.int a), some (.int b), some (.int v), none]) rfl (Nat.le_of_ble_eq_true rfl) rfl ?_
  have hP := h.2.1.1
  have hG := hP.2.1.2
  have hbx := inR_ix (k := 1) (a := v) (by omega)
  have bad : ¬ (inR (nI 1) (nI 60) a = true ∧ 0 ≤ b) → aI (aEvenings X a b v) (fun σ' => RC σ' X ∧ FrC σ σ') (some (.int (-102))) σ := fun q => ⟨by unfold aEvenings; rw [if_neg q], h, FrC.rf⟩
  cases hb : ix 2 v with
  | none =>
    rw [hb] at hbx
    refine go_iload_n dX8_evenings_0 rfl rfl ?_
    refine go_iconst (v := nI 1) dX8_evenings_1 rfl ?_
    refine go_bipush (v := nI 60) dX8_evenings_2 rfl ?_
    refine go_callSp csX8_62 sp_isOutside (by omega) rfl rfl (Nat.le_of_ble_eq_true rfl) dX8_evenings_4 ?_
    refine go_if_ne (tgt := 23) dX8_evenings_7 (by decide) (fun c7 => ?_) (fun c7 => ?_)
    · refine go_bipush (v := (-102)) dX8_evenings_23 rfl ?_
      refine go_iret rfl dX8_evenings_25 ?_
      exact bad (fun z => by rw [z.1] at c7; exact absurd rfl c7)
    · refine go_iload_n dX8_evenings_10 rfl rfl ?_
      refine go_if_lt (tgt := 23) dX8_evenings_11 (by decide) (fun c11 => ?_) (fun c11 => ?_)
      · refine go_bipush (v := (-102)) dX8_evenings_23 rfl ?_
        refine go_iret rfl dX8_evenings_25 ?_
        exact bad (fun z => Int32.not_lt.mpr z.2 c11)
      · refine go_iload_n dX8_evenings_14 rfl rfl ?_
        refine go_iconst (v := nI 0) dX8_evenings_15 rfl ?_
        refine go_iconst (v := nI 1) dX8_evenings_16 rfl ?_
        refine go_callSp csX8_62 sp_isOutside (by omega) rfl rfl (Nat.le_of_ble_eq_true rfl) dX8_evenings_17 ?_
        rw [hbx]
        refine go_if_eq (tgt := 26) dX8_evenings_20 (by decide) (fun c20 => ?_) (fun c20 => ?_)
        · exact absurd c20 (by decide)
        · refine go_bipush (v := (-102)) dX8_evenings_23 rfl ?_
          refine go_iret rfl dX8_evenings_25 ?_
          have c7 : inR (nI 1) (nI 60) a = true := by have := bI_eq0.mp c7; simpa using this
          exact ⟨by unfold aEvenings; rw [if_pos ⟨c7, Int32.not_lt.mp c11⟩, hb], h, FrC.rf⟩
  | some w =>
    obtain ⟨hw, rfl⟩ := ix_some (by omega) hb
    rw [hb] at hbx
    by_cases h0 : pG (xP X) = 0
    · have hs : σ.1 6 1 = nI 0 := by rw [hP.2.1.1, h0]
      refine go_iload_n dX8_evenings_0 rfl rfl ?_
      refine go_iconst (v := nI 1) dX8_evenings_1 rfl ?_
      refine go_bipush (v := nI 60) dX8_evenings_2 rfl ?_
      refine go_callSp csX8_62 sp_isOutside (by omega) rfl rfl (Nat.le_of_ble_eq_true rfl) dX8_evenings_4 ?_
      refine go_if_ne (tgt := 23) dX8_evenings_7 (by decide) (fun c7 => ?_) (fun c7 => ?_)
      · refine go_bipush (v := (-102)) dX8_evenings_23 rfl ?_
        refine go_iret rfl dX8_evenings_25 ?_
        exact bad (fun z => by rw [z.1] at c7; exact absurd rfl c7)
      · refine go_iload_n dX8_evenings_10 rfl rfl ?_
        refine go_if_lt (tgt := 23) dX8_evenings_11 (by decide) (fun c11 => ?_) (fun c11 => ?_)
        · refine go_bipush (v := (-102)) dX8_evenings_23 rfl ?_
          refine go_iret rfl dX8_evenings_25 ?_
          exact bad (fun z => Int32.not_lt.mpr z.2 c11)
        · refine go_iload_n dX8_evenings_14 rfl rfl ?_
          refine go_iconst (v := nI 0) dX8_evenings_15 rfl ?_
          refine go_iconst (v := nI 1) dX8_evenings_16 rfl ?_
          refine go_callSp csX8_62 sp_isOutside (by omega) rfl rfl (Nat.le_of_ble_eq_true rfl) dX8_evenings_17 ?_
          rw [hbx]
          refine go_if_eq (tgt := 26) dX8_evenings_20 (by decide) (fun c20 => ?_) (fun c20 => ?_)
          · refine go_aload_n dX8_evenings_26 rfl rfl ?_
            refine go_getR flX8_26 fs_0_2 dX8_evenings_27 ?_
            refine go_getI flX8_86 fs_6_1 dX8_evenings_30 ?_
            rw [hs]
            refine go_if_ne (tgt := 39) dX8_evenings_33 (by decide) (fun c33 => ?_) (fun c33 => ?_)
            · exact absurd rfl c33
            · refine go_bipush (v := (-103)) dX8_evenings_36 rfl ?_
              refine go_iret rfl dX8_evenings_38 ?_
              have c7 : inR (nI 1) (nI 60) a = true := by have := bI_eq0.mp c7; simpa using this
              exact ⟨by unfold aEvenings; rw [if_pos ⟨c7, Int32.not_lt.mp c11⟩, hb]; simp only [if_pos h0], h, FrC.rf⟩
          · exact absurd rfl c20
    · by_cases hab : inR (nI 1) (nI 60) a = true ∧ 0 ≤ b
      · obtain ⟨ha, hb0⟩ := id hab
        have ha' := ha
        unfold inR at ha
        simp only [Bool.and_eq_true, decide_eq_true_eq] at ha
        obtain ⟨n, hn31, rfl⟩ := nI_of (x := a) (fun z => nI_pos (n := 1) (by omega) (Int32.lt_of_le_of_lt ha.1 z))
        rw [nI_leI (by omega) (by omega), nI_leI (by omega) (by omega)] at ha
        obtain ⟨s, hs31, rfl⟩ := nI_of (x := b) (Int32.not_lt.mpr hb0)
        have hD0 : 0 < pD (xP X) := by
          rcases Nat.eq_zero_or_pos (pD (xP X)) with z | z
          · exact absurd (hI.2.1.2.2.2.1 z) h0
          · exact z
        have e0 : aEvenings X (nI n) (nI s) (nI w) = if w = 0 then (evS (xP X) s n).2.2 else nI (evS (xP X) s n).2.1 := by
          unfold aEvenings
          rw [if_pos ⟨ha', hb0⟩, hb]
          simp only [if_neg h0, nI_clamp hn31, nI_clamp hs31]
        have hlt := evS_lt (xP X) (s := s) (by omega) n
        refine go_iload_n dX8_evenings_0 rfl rfl ?_
        refine go_iconst (v := nI 1) dX8_evenings_1 rfl ?_
        refine go_bipush (v := nI 60) dX8_evenings_2 rfl ?_
        refine go_callSp csX8_62 sp_isOutside (by omega) rfl rfl (Nat.le_of_ble_eq_true rfl) dX8_evenings_4 ?_
        rw [ha']
        refine go_if_ne (tgt := 23) dX8_evenings_7 (by decide) (fun c7 => ?_) (fun c7 => ?_)
        · exact absurd rfl c7
        · refine go_iload_n dX8_evenings_10 rfl rfl ?_
          refine go_if_lt (tgt := 23) dX8_evenings_11 (by decide) (fun c11 => ?_) (fun c11 => ?_)
          · exact absurd c11 (nI_pos hs31)
          · refine go_iload_n dX8_evenings_14 rfl rfl ?_
            refine go_iconst (v := nI 0) dX8_evenings_15 rfl ?_
            refine go_iconst (v := nI 1) dX8_evenings_16 rfl ?_
            refine go_callSp csX8_62 sp_isOutside (by omega) rfl rfl (Nat.le_of_ble_eq_true rfl) dX8_evenings_17 ?_
            rw [hbx]
            refine go_if_eq (tgt := 26) dX8_evenings_20 (by decide) (fun c20 => ?_) (fun c20 => ?_)
            · refine go_aload_n dX8_evenings_26 rfl rfl ?_
              refine go_getR flX8_26 fs_0_2 dX8_evenings_27 ?_
              refine go_getI flX8_86 fs_6_1 dX8_evenings_30 ?_
              rw [hP.2.1.1]
              refine go_if_ne (tgt := 39) dX8_evenings_33 (by decide) (fun c33 => ?_) (fun c33 => ?_)
              · refine go_aload_n dX8_evenings_39 rfl rfl ?_
                refine go_getR flX8_51 fs_0_5 dX8_evenings_40 ?_
                refine go_iload_n dX8_evenings_43 rfl rfl ?_
                refine go_iload_n dX8_evenings_44 rfl rfl ?_
                refine go_callVi cvX8_227 os_27 (sp_joyOfEvenings (h.su hI) (by omega) ha.2 (by omega) hD0 hI.2.1.1) (by omega) rfl rfl (Nat.le_of_ble_eq_true rfl) dX8_evenings_45 (fun σ1 q1 => ?_)
                refine go_istore (L' := [_, _, _, _, _]) dX8_evenings_48 (by decide) rfl rfl ?_
                refine go_iload_n dX8_evenings_50 rfl rfl ?_
                refine go_if_ne (tgt := 59) dX8_evenings_51 (by decide) (fun c51 => ?_) (fun c51 => ?_)
                · refine go_aload_n dX8_evenings_59 rfl rfl ?_
                  refine go_getR flX8_51 fs_0_5 dX8_evenings_60 ?_
                  refine go_getL flX8_230 fs_27_9 dX8_evenings_63 ?_
                  refine go_l2i dX8_evenings_66 ?_
                  refine go_iret rfl dX8_evenings_67 ?_
                  have hw0 : ¬ w = 0 := fun z => c51 (by rw [z]; rfl)
                  refine ⟨?_, h.of hI q1.1, q1.1.frc⟩
                  rw [e0, if_neg hw0, q1.2, lN_i]
                · refine go_iload dX8_evenings_54 rfl ?_
                  refine go_goto (tgt := 67) dX8_evenings_56 (by decide) ?_
                  refine go_iret rfl dX8_evenings_67 ?_
                  have hw0 : w = 0 := (nI_z (by omega)).mp c51
                  exact ⟨by rw [e0, if_pos hw0], h.of hI q1.1, q1.1.frc⟩
              · exact absurd ((nI_z (by omega)).mp c33) h0
            · exact absurd rfl c20
      · refine go_iload_n dX8_evenings_0 rfl rfl ?_
        refine go_iconst (v := nI 1) dX8_evenings_1 rfl ?_
        refine go_bipush (v := nI 60) dX8_evenings_2 rfl ?_
        refine go_callSp csX8_62 sp_isOutside (by omega) rfl rfl (Nat.le_of_ble_eq_true rfl) dX8_evenings_4 ?_
        refine go_if_ne (tgt := 23) dX8_evenings_7 (by decide) (fun c7 => ?_) (fun c7 => ?_)
        · refine go_bipush (v := (-102)) dX8_evenings_23 rfl ?_
          refine go_iret rfl dX8_evenings_25 ?_
          exact bad hab
        · refine go_iload_n dX8_evenings_10 rfl rfl ?_
          refine go_if_lt (tgt := 23) dX8_evenings_11 (by decide) (fun c11 => ?_) (fun c11 => ?_)
          · refine go_bipush (v := (-102)) dX8_evenings_23 rfl ?_
            refine go_iret rfl dX8_evenings_25 ?_
            exact bad hab
          · exact absurd ⟨by have := bI_eq0.mp c7; simpa using this, Int32.not_lt.mp c11⟩ hab
