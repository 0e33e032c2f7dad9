/-! the JDK's three, and the class's seats at once -/
def mn (a b : Int32) : Int32 := if b < a then b else a
section GOJ
variable {Γ : Gm} {n : Nat} {M : Md} {Q : Option Value → Mm → Prop} {pc : Nat} {L : List (Option Value)} {st : List Value} {σ : Mm}
theorem go_max {x y : Int32} {idx : Nat} (w : CS M.1.cls idx mJ9_max_7cf53 2) (hn : 1 ≤ n) (hr : (st.map fun v => v.category).sum ≤ 8) (d : decode M.2.1 pc = .ok (.invokestatic idx, 3)) (k : Go Γ n M Q (pc + 3) L (.int (mx x y) :: st) σ) : Go Γ n M Q pc L (.int y :: .int x :: st) σ := by
  intro p l e s m args below meth c H locs ls C hP hS hl
  have hts := C.2.2.2.2.2.1
  exact va_mmax C.1 C.2.1 (C.2.2.2.1.trans hl.1.symm) C.2.2.2.2.1 (hts _ w.1.1) (hts _ w.1.2.1) (hts _ w.1.2.2.1) (hts _ w.1.2.2.2) hn (by show _ ≤ 128 * n; omega) (Nat.le_refl 0) (Nat.le_refl 0) d (k p l e s m args below meth c H locs ls C hP hS hl)
theorem go_min {x y : Int32} {idx : Nat} (w : CS M.1.cls idx mJ9_min_7cf53 2) (hn : 1 ≤ n) (hr : (st.map fun v => v.category).sum ≤ 8) (d : decode M.2.1 pc = .ok (.invokestatic idx, 3)) (k : Go Γ n M Q (pc + 3) L (.int (mn x y) :: st) σ) : Go Γ n M Q pc L (.int y :: .int x :: st) σ := by
  intro p l e s m args below meth c H locs ls C hP hS hl
  have hts := C.2.2.2.2.2.1
  exact va_mmin C.1 C.2.1 (C.2.2.2.1.trans hl.1.symm) C.2.2.2.2.1 (hts _ w.1.1) (hts _ w.1.2.1) (hts _ w.1.2.2.1) (hts _ w.1.2.2.2) hn (by show _ ≤ 128 * n; omega) (Nat.le_refl 0) (Nat.le_refl 0) d (k p l e s m args below meth c H locs ls C hP hS hl)
theorem sp_av {av av' : List Value} (e : av = av') (h : Sp Γ n M av σ Q) : Sp Γ n M av' σ Q := e ▸ h
end GOJ
/-- the row's own dish, where all have one -/
def Dn (P : Pb) (h : Nat → Int32) (n : Nat) : Prop := ∀ g, g < n → ∃ d, d < pD P ∧ h g = nI d
set_option maxHeartbeats 1000000 in
theorem lp_content2 {Γ : Gm} {σ : Mm} {P : Pb} {h : Nat → Int32} {g d0 : Nat} (hP : PI σ P) (hT : TI σ 36 P h) (hk : Pok P) (hg : g < pG P) (hd0 : d0 < pD P) (e0 : h g = nI d0)
    (next : allB (conE P h g) (pD P) = true → Go Γ 2 mX7_allContent (aP (bI (conB P h)) σ) 2 [some (rf Γ 36), some (.int (nI (g + 1))), none, none] [] σ) :
    ∀ (m d : Nat), pD P - d = m → d ≤ pD P → allB (conE P h g) d = true → Go Γ 2 mX7_allContent (aP (bI (conB P h)) σ) 27 [some (rf Γ 36), some (.int (nI g)), some (.int (valM P h g d0)), some (.int (nI d))] [] σ := by
  have hD := hP.1.2
  have hG := hP.2.1.2
  have hg5 : g < 5 := by omega
  have hrow : σ.1 (36 + 3) g = nI d0 := by rw [(hT.2.2 g hg5 (Or.inr hg)).1, e0]; exact hC_nI (by omega)
  intro m
  induction m with
  | zero =>
    intro d hm hd ha
    have e : d = pD P := by omega
    subst e
    refine go_iload_n dX7_allContent_27 rfl rfl ?_
    refine go_aload_n dX7_allContent_28 rfl rfl ?_
    refine go_getR flX7_28 fs_36_0 dX7_allContent_29 ?_
    refine go_getI flX7_67 fs_3_2 dX7_allContent_32 ?_
    rw [hP.1.1]
    refine go_icmp_ge (tgt := 75) dX7_allContent_35 (by decide) (fun c35 => ?_) (fun c35 => ?_)
    · refine go_iinc (v := nI (g + 1)) (L' := [_, _, _, _]) dX7_allContent_75 rfl (nI_1 _) (by decide) rfl rfl ?_
      refine go_goto (tgt := 2) dX7_allContent_78 (by decide) ?_
      exact go_sub [true, true, false, false] rfl (next ha)
    · exact absurd (Int32.le_refl _) c35
  | succ m ih =>
    intro d hm hd ha
    have hd1 : d < pD P := by omega
    have stp : conE P h g d = true → Go Γ 2 mX7_allContent (aP (bI (conB P h)) σ) 27 [some (rf Γ 36), some (.int (nI g)), some (.int (valM P h g d0)), some (.int (nI (d + 1)))] [] σ := fun q => ih (d + 1) (by omega) (by omega) (by unfold allB; rw [ha, q]; rfl)
    refine go_iload_n dX7_allContent_27 rfl rfl ?_
    refine go_aload_n dX7_allContent_28 rfl rfl ?_
    refine go_getR flX7_28 fs_36_0 dX7_allContent_29 ?_
    refine go_getI flX7_67 fs_3_2 dX7_allContent_32 ?_
    rw [hP.1.1]
    refine go_icmp_ge (tgt := 75) dX7_allContent_35 (by decide) (fun c35 => ?_) (fun c35 => ?_)
    · exact absurd c35 (nI_ge (by omega) (by omega))
    · refine go_iload_n dX7_allContent_38 rfl rfl ?_
      refine go_aload_n dX7_allContent_39 rfl rfl ?_
      refine go_getR flX7_18 fs_36_4 dX7_allContent_40 ?_
      refine go_iload_n dX7_allContent_43 rfl rfl ?_
      refine go_iald (g) rfl as_39 (by omega) (by decide) dX7_allContent_44 ?_
      rw [show σ.1 39 g = nI d0 from hrow]
      refine go_icmp_eq (tgt := 69) dX7_allContent_45 (by decide) (fun c45 => ?_) (fun c45 => ?_)
      · refine go_iinc (v := nI (d + 1)) (L' := [_, _, _, _]) dX7_allContent_69 rfl (nI_1 _) (by decide) rfl rfl ?_
        refine go_goto (tgt := 27) dX7_allContent_72 (by decide) ?_
        exact stp (by unfold conE; rw [e0]; simp [c45])
      · refine go_aload_n dX7_allContent_48 rfl rfl ?_
        refine go_iload_n dX7_allContent_49 rfl rfl ?_
        refine go_iload_n dX7_allContent_50 rfl rfl ?_
        refine go_callVp cvX7_70 os_36 (sp_canHave isT36 hg5 (by omega)) (by omega) rfl rfl (Nat.le_of_ble_eq_true rfl) dX7_allContent_51 ?_
        rw [canHave_may hP hT hk hg hd1 (fun z => c45 (z.symm.trans e0))]
        refine go_if_eq (tgt := 69) dX7_allContent_54 (by decide) (fun c54 => ?_) (fun c54 => ?_)
        · refine go_iinc (v := nI (d + 1)) (L' := [_, _, _, _]) dX7_allContent_69 rfl (nI_1 _) (by decide) rfl rfl ?_
          refine go_goto (tgt := 27) dX7_allContent_72 (by decide) ?_
          exact stp (by unfold conE; simp [bI_eq0.mp c54])
        · refine go_aload_n dX7_allContent_57 rfl rfl ?_
          refine go_iload_n dX7_allContent_58 rfl rfl ?_
          refine go_iload_n dX7_allContent_59 rfl rfl ?_
          refine go_callVp cvX7_74 os_36 (sp_value isT36 hg5 (by omega)) (by omega) rfl rfl (Nat.le_of_ble_eq_true rfl) dX7_allContent_60 ?_
          rw [valC_val hP hT hg hd1]
          refine go_iload_n dX7_allContent_63 rfl rfl ?_
          refine go_icmp_le (tgt := 69) dX7_allContent_64 (by decide) (fun c64 => ?_) (fun c64 => ?_)
          · refine go_iinc (v := nI (d + 1)) (L' := [_, _, _, _]) dX7_allContent_69 rfl (nI_1 _) (by decide) rfl rfl ?_
            refine go_goto (tgt := 27) dX7_allContent_72 (by decide) ?_
            exact stp (by unfold conE; rw [e0, nI_clamp (by omega)]; simp [c64])
          · refine go_iconst (v := nI 0) dX7_allContent_67 rfl ?_
            refine go_zret rfl dX7_allContent_68 (by first | exact Or.inl rfl | exact Or.inr rfl | exact bI_01 _) ?_
            refine ⟨?_, rfl⟩
            have hf : conE P h g d = false := by
              unfold conE
              rw [e0, nI_clamp (by omega)]
              simp [c45, bI_ne0.mp c54, c64]
            rw [show conB P h = false from allB_false hg (allB_false hd1 hf)]
            rfl
set_option maxHeartbeats 1000000 in
theorem lp_content1 {Γ : Gm} {σ : Mm} {P : Pb} {h : Nat → Int32} (hP : PI σ P) (hT : TI σ 36 P h) (hk : Pok P) (hn : Dn P h (pG P)) : ∀ (m g : Nat), pG P - g = m → g ≤ pG P → allB (fun g => allB (conE P h g) (pD P)) g = true → Go Γ 2 mX7_allContent (aP (bI (conB P h)) σ) 2 [some (rf Γ 36), some (.int (nI g)), none, none] [] σ := by
  have hD := hP.1.2
  have hG := hP.2.1.2
  intro m
  induction m with
  | zero =>
    intro g hm hg ha
    have e : g = pG P := by omega
    subst e
    refine go_iload_n dX7_allContent_2 rfl rfl ?_
    refine go_aload_n dX7_allContent_3 rfl rfl ?_
    refine go_getR flX7_32 fs_36_1 dX7_allContent_4 ?_
    refine go_getI flX7_90 fs_6_1 dX7_allContent_7 ?_
    rw [hP.2.1.1]
    refine go_icmp_ge (tgt := 81) dX7_allContent_10 (by decide) (fun c10 => ?_) (fun c10 => ?_)
    · refine go_iconst (v := nI 1) dX7_allContent_81 rfl ?_
      refine go_zret rfl dX7_allContent_82 (by first | exact Or.inl rfl | exact Or.inr rfl | exact bI_01 _) ?_
      exact ⟨by rw [show conB P h = true from ha]; rfl, rfl⟩
    · exact absurd (Int32.le_refl _) c10
  | succ m ih =>
    intro g hm hg ha
    have hg1 : g < pG P := by omega
    obtain ⟨d0, hd0, e0⟩ := hn g hg1
    have hrow : σ.1 39 g = nI d0 := by rw [(hT.2.2 g (by omega) (Or.inr (by omega))).1, e0]; exact hC_nI (by omega)
    refine go_iload_n dX7_allContent_2 rfl rfl ?_
    refine go_aload_n dX7_allContent_3 rfl rfl ?_
    refine go_getR flX7_32 fs_36_1 dX7_allContent_4 ?_
    refine go_getI flX7_90 fs_6_1 dX7_allContent_7 ?_
    rw [hP.2.1.1]
    refine go_icmp_ge (tgt := 81) dX7_allContent_10 (by decide) (fun c10 => ?_) (fun c10 => ?_)
    · exact absurd c10 (nI_ge (by omega) (by omega))
    · refine go_aload_n dX7_allContent_13 rfl rfl ?_
      refine go_iload_n dX7_allContent_14 rfl rfl ?_
      refine go_aload_n dX7_allContent_15 rfl rfl ?_
      refine go_getR flX7_18 fs_36_4 dX7_allContent_16 ?_
      refine go_iload_n dX7_allContent_19 rfl rfl ?_
      refine go_iald (g) rfl as_39 (by omega) (by decide) dX7_allContent_20 ?_
      rw [hrow]
      refine go_callVp cvX7_74 os_36 (sp_value isT36 (by omega) (by omega)) (by omega) rfl rfl (Nat.le_of_ble_eq_true rfl) dX7_allContent_21 ?_
      rw [valC_val hP hT hg1 hd0]
      refine go_istore_n (L' := [_, _, _, _]) dX7_allContent_24 rfl (by decide) rfl rfl ?_
      refine go_iconst (v := nI 0) dX7_allContent_25 rfl ?_
      refine go_istore_n (L' := [_, _, _, _]) dX7_allContent_26 rfl (by decide) rfl rfl ?_
      exact lp_content2 hP hT hk hg1 hd0 e0 (fun q => ih (g + 1) (by omega) (by omega) (by unfold allB; rw [ha, q]; rfl)) (pD P) 0 rfl (Nat.zero_le _) rfl
set_option maxHeartbeats 1000000 in
theorem sp_allContent {Γ : Gm} {σ : Mm} {P : Pb} {h : Nat → Int32} (hP : PI σ P) (hT : TI σ 36 P h) (hk : Pok P) (hn : Dn P h (pG P)) : Sp Γ 2 mX7_allContent [rf Γ 36] σ (aP (bI (conB P h)) σ) := by
  refine sp_in (L := [some (rf Γ 36), none, none, none]) rfl (Nat.le_of_ble_eq_true rfl) rfl ?_
  refine go_iconst (v := nI 0) dX7_allContent_0 rfl ?_
  refine go_istore_n (L' := [_, _, _, _]) dX7_allContent_1 rfl (by decide) rfl rfl ?_
  exact lp_content1 hP hT hk hn (pG P) 0 rfl (Nat.zero_le _) rfl
theorem con_good {P : Pb} {h : Nat → Int32} (hk : Pok P) (hG : pG P ≤ 5) (hD : pD P ≤ 6) (hF : Fea P h) (hn : Dn P h (pG P)) : goodB P h = conB P h := by
  have key : ∀ n, n ≤ pG P → allB (fun g => mayM P h g (h g).toNatClampNeg && allB (conE P h g) (pD P)) n = allB (fun g => allB (conE P h g) (pD P)) n := by
    intro n
    induction n with
    | zero => intro _; rfl
    | succ n ih =>
      intro hn1
      obtain ⟨d, hd, e⟩ := hn n (by omega)
      unfold allB
      rw [ih (by omega), e, nI_clamp (by omega), hF.may hk hG (by omega) hd e, Bool.true_and]
  exact key _ (Nat.le_refl _)
/-- a partial row: the first g have a dish, the others wait -/
def Part (P : Pb) (h : Nat → Int32) (g : Nat) : Prop := Dn P h g ∧ ∀ k, g ≤ k → h k = -2
theorem Part.rok {P : Pb} {h : Nat → Int32} {g : Nat} (hp : Part P h g) (hg : g ≤ pG P) : Rok P h := by
  refine ⟨fun k _ => ?_, fun k hk => hp.2 k (by omega)⟩
  by_cases q : k < g
  · exact Or.inr (Or.inr (hp.1 k q))
  · exact Or.inl (hp.2 k (by omega))
def acc (σ : Mm) : Ac := (σ.1 27 7, σ.1 27 8)
/-- what seating does besides: the forecast's counters, its trial table -/
def OSt (σ σ' : Mm) : Prop := (∀ a, a ≠ 27 → a < 36 ∨ 40 < a → σ'.1 a = σ.1 a) ∧ σ'.2 = σ.2
theorem OSt.rf {σ : Mm} : OSt σ σ := ⟨fun _ _ _ => rfl, rfl⟩
theorem OSt.trans {σ σ1 σ2 : Mm} (h : OSt σ σ1) (h2 : OSt σ1 σ2) : OSt σ σ2 := ⟨fun a q r => (h2.1 a q r).trans (h.1 a q r), h2.2.trans h.2⟩
theorem OSt.ot {σ σ' : Mm} (h : OT 36 σ σ') : OSt σ σ' := ⟨fun a _ r => h.1 a (by omega), h.2⟩
theorem OSt.of {σ σ' : Mm} (h : OSt σ σ') : OF σ σ' := ⟨fun a r => h.1 a (by omega) (by omega), fun a _ => by rw [h.2]⟩
theorem PI.os {σ σ' : Mm} {P : Pb} (h : OSt σ σ') (hP : PI σ P) : PI σ' P := by
  obtain ⟨⟨a1, a2⟩, ⟨b1, b2⟩, c, d⟩ := hP
  refine ⟨⟨by rw [h.1 3 (by omega) (by omega)]; exact a1, a2⟩, ⟨by rw [h.1 6 (by omega) (by omega)]; exact b1, b2⟩, fun k hk => ?_, fun g hg => ?_⟩
  · rw [h.1 4 (by omega) (by omega), h.1 5 (by omega) (by omega)]; exact c k hk
  · rw [h.1 (8 + 2 * g) (by omega) (by omega), h.1 (9 + 2 * g) (by omega) (by omega)]; exact d g hg
theorem acc_ot {σ σ' : Mm} (h : OT 36 σ σ') : acc σ' = acc σ := by unfold acc; rw [h.1 27 (by omega)]
theorem TI.cell27 {σ : Mm} {P : Pb} {h : Nat → Int32} {k : Nat} {v : Int32} (hT : TI σ 36 P h) : TI (stI σ 27 k v) 36 P h := by
  obtain ⟨⟨u1, u2, u3⟩, h5, h6⟩ := hT
  refine ⟨⟨?_, ?_, ?_⟩, fun d hd => ?_, fun g hg hz => ?_⟩ <;> simp (disch := omega) only [stI_ne]
  · exact u1
  · exact u2
  · exact u3
  · exact h5 d hd
  · exact h6 g hg hz
set_option maxHeartbeats 2000000 in
theorem sp_seat {Γ : Gm} {P : Pb} (hk : Pok P) : ∀ (r : Nat) (σ : Mm) (h : Nat → Int32) (g : Nat), g + r = pG P → PI σ P → TI σ 36 P h → Part P h g → Fea P h → Sp Γ (r + 3) mX0_seatOnwards [rf Γ 27, .int (nI g)] σ (aV (fun σ' => TI σ' 36 P h ∧ acc σ' = opA (acc σ) (NF P r h) ∧ OSt σ σ')) := by
  intro r
  induction r with
  | zero =>
    intro σ h g hr hP hT hp hF
    have hD := hP.1.2
    have hG := hP.2.1.2
    have e : g = pG P := by omega
    subst e
    have hgc := con_good hk hG hD hF hp.1
    refine sp_in (L := [some (rf Γ 27), some (.int (nI (pG P))), none]) rfl (Nat.le_of_ble_eq_true rfl) rfl ?_
    refine go_iload_n dX0_seatOnwards_0 rfl rfl ?_
    refine go_aload_n dX0_seatOnwards_1 rfl rfl ?_
    refine go_getR flX0_27 fs_27_1 dX0_seatOnwards_2 ?_
    refine go_getI flX0_63 fs_6_1 dX0_seatOnwards_5 ?_
    rw [hP.2.1.1]
    refine go_icmp_lt (tgt := 50) dX0_seatOnwards_8 (by decide) (fun c8 => ?_) (fun c8 => ?_)
    · exact (Int32.lt_irrefl c8).elim
    · refine go_aload_n dX0_seatOnwards_11 rfl rfl ?_
      refine go_getR flX0_40 fs_27_3 dX0_seatOnwards_12 ?_
      refine go_callVp cvX0_108 os_36 (sp_allContent hP hT hk hp.1) (by omega) rfl rfl (Nat.le_of_ble_eq_true rfl) dX0_seatOnwards_15 ?_
      rw [← hgc]
      refine go_if_eq (tgt := 49) dX0_seatOnwards_18 (by decide) (fun c18 => ?_) (fun c18 => ?_)
      · refine go_vret rfl dX0_seatOnwards_49 ?_
        refine ⟨rfl, hT, ?_, OSt.rf⟩
        unfold NF ctr
        rw [bI_eq0.mp c18]
        exact (opA_e _).symm
      · refine go_aload_n dX0_seatOnwards_21 rfl rfl ?_
        refine go_dup dX0_seatOnwards_22 rfl ?_
        refine go_getI flX0_99 fs_27_7 dX0_seatOnwards_23 ?_
        refine go_iconst (v := nI 1) dX0_seatOnwards_26 rfl ?_
        refine go_iadd dX0_seatOnwards_27 ?_
        refine go_putI fwX0_99 fs_27_7 dX0_seatOnwards_28 ?_
        refine go_aload_n dX0_seatOnwards_31 rfl rfl ?_
        refine go_aload_n dX0_seatOnwards_32 rfl rfl ?_
        refine go_getI flX0_102 fs_27_8 dX0_seatOnwards_33 ?_
        refine go_aload_n dX0_seatOnwards_36 rfl rfl ?_
        refine go_getR flX0_40 fs_27_3 dX0_seatOnwards_37 ?_
        refine go_callVp cvX0_89 os_36 (sp_joyOfAll isT36 (P := P) (h := h) (hP.os ⟨fun a q _ => funext fun y => stI_ne (Or.inl q), rfl⟩) hT.cell27 (hp.rok (Nat.le_refl _))) (by omega) rfl rfl (Nat.le_of_ble_eq_true rfl) dX0_seatOnwards_40 ?_
        refine go_max csX0_112 (by omega) (Nat.le_of_ble_eq_true rfl) dX0_seatOnwards_43 ?_
        refine go_putI fwX0_102 fs_27_8 dX0_seatOnwards_46 ?_
        refine go_vret rfl dX0_seatOnwards_49 ?_
        refine ⟨rfl, hT.cell27.cell27, ?_, ⟨fun a q _ => funext fun y => (stI_ne (Or.inl q)).trans (stI_ne (Or.inl q)), rfl⟩⟩
        unfold NF ctr
        rw [if_pos (bI_ne0.mp c18)]
        unfold acc opA
        simp (disch := omega) only [stI_at, stI_ne]
        rfl
  | succ r ih =>
    intro σ h g hr hP hT hp hF
    have hD := hP.1.2
    have hG := hP.2.1.2
    have hg1 : g < pG P := by omega
    have hg5 : g < 5 := by omega
    have hw := hp.2 g (Nat.le_refl _)
    have hgr : pG P - (r + 1) = g := by omega
    have lp : ∀ (m d : Nat) (σ' : Mm), pD P - d = m → d ≤ pD P → TI σ' 36 P h → acc σ' = opA (acc σ) (fo (fun d => NF P r (upd h g (nI d))) d) → OSt σ σ' → Go Γ (r + 1 + 3) mX0_seatOnwards (aV (fun σ' => TI σ' 36 P h ∧ acc σ' = opA (acc σ) (NF P (r + 1) h) ∧ OSt σ σ')) 52 [some (rf Γ 27), some (.int (nI g)), some (.int (nI d))] [] σ' := by
      intro m
      induction m with
      | zero =>
        intro d σ' hm hd hT' ha hO
        have e : d = pD P := by omega
        subst e
        refine go_iload_n dX0_seatOnwards_52 rfl rfl ?_
        refine go_aload_n dX0_seatOnwards_53 rfl rfl ?_
        refine go_getR flX0_23 fs_27_0 dX0_seatOnwards_54 ?_
        refine go_getI flX0_117 fs_3_2 dX0_seatOnwards_57 ?_
        rw [(hP.os hO).1.1]
        refine go_icmp_ge (tgt := 105) dX0_seatOnwards_60 (by decide) (fun c60 => ?_) (fun c60 => ?_)
        · refine go_vret rfl dX0_seatOnwards_105 ?_
          exact ⟨rfl, hT', by rw [ha]; show _ = opA (acc σ) (fo (fun d => NF P r (upd h (pG P - (r + 1)) (nI d))) (pD P)); rw [hgr], hO⟩
        · exact absurd (Int32.le_refl _) c60
      | succ m ihm =>
        intro d σ' hm hd hT' ha hO
        have hd1 : d < pD P := by omega
        have hP' := hP.os hO
        have hne : h g ≠ nI d := by rw [hw]; exact (nI_neg2 (by omega)).symm
        have hu : upd (upd h g (nI d)) g (-2) = h := by rw [upd_upd, ← hw, upd_same]
        have hp2 : Part P (upd h g (nI d)) (g + 1) := by
          refine ⟨fun k hk => ?_, fun k hk => ?_⟩
          · by_cases q : k = g
            · subst q; exact ⟨d, hd1, by simp [upd]⟩
            · simp only [upd, if_neg q]; exact hp.1 k (by omega)
          · simp only [upd, if_neg (show ¬ k = g by omega)]; exact hp.2 k (by omega)
        refine go_iload_n dX0_seatOnwards_52 rfl rfl ?_
        refine go_aload_n dX0_seatOnwards_53 rfl rfl ?_
        refine go_getR flX0_23 fs_27_0 dX0_seatOnwards_54 ?_
        refine go_getI flX0_117 fs_3_2 dX0_seatOnwards_57 ?_
        rw [hP'.1.1]
        refine go_icmp_ge (tgt := 105) dX0_seatOnwards_60 (by decide) (fun c60 => ?_) (fun c60 => ?_)
        · exact absurd c60 (nI_ge (by omega) (by omega))
        · refine go_aload_n dX0_seatOnwards_63 rfl rfl ?_
          refine go_getR flX0_40 fs_27_3 dX0_seatOnwards_64 ?_
          refine go_iload_n dX0_seatOnwards_67 rfl rfl ?_
          refine go_iload_n dX0_seatOnwards_68 rfl rfl ?_
          refine go_callVp cvX0_120 os_36 (sp_canHave isT36 hg5 (by omega)) (by omega) rfl rfl (Nat.le_of_ble_eq_true rfl) dX0_seatOnwards_69 ?_
          rw [canHave_may hP' hT' hk hg1 hd1 hne]
          refine go_if_eq (tgt := 99) dX0_seatOnwards_72 (by decide) (fun c72 => ?_) (fun c72 => ?_)
          · refine go_iinc (v := nI (d + 1)) (L' := [_, _, _]) dX0_seatOnwards_99 rfl (nI_1 _) (by decide) rfl rfl ?_
            refine go_goto (tgt := 52) dX0_seatOnwards_102 (by decide) ?_
            refine ihm (d + 1) σ' (by omega) (by omega) hT' ?_ hO
            have hb : NF P r (upd h g (nI d)) = eA := by
              refine Bad.nf hG hD r _ (by omega) ⟨g, d, by omega, hd1, by simp [upd], ?_⟩
              obtain ⟨k, hk1, hk2, hk3⟩ := hk d hd1
              have hm0 := bI_eq0.mp c72
              unfold mayM oth at hm0
              rw [if_neg hne, hk1, Int32.sub_zero] at hm0
              by_cases q : pPr P d ≤ pPu P g
              · have q2 : ¬ nI (cnt h (nI d) (pG P)) < nI k := by
                  intro z
                  simp [q, z] at hm0
                refine Or.inr ⟨k, hk3, hk1, ?_⟩
                have hc := cnt_le h (nI d) (pG P)
                have q3 : k ≤ cnt h (nI d) (pG P) := by
                  by_cases z : k ≤ cnt h (nI d) (pG P)
                  · exact z
                  · exact absurd (nI_lt (by omega) (by omega)) q2
                rw [show pG P - r = g + 1 by omega]
                have q4 : cnt h (nI d) (pG P) = cnt h (nI d) g := by
                  have key : ∀ n, g ≤ n → cnt h (nI d) n = cnt h (nI d) g := by
                    intro n
                    induction n with
                    | zero => intro z; have : g = 0 := by omega
                              subst this; rfl
                    | succ n ih9 =>
                      intro z
                      by_cases e9 : g = n + 1
                      · subst e9; rfl
                      · show cnt h (nI d) n + (if h n = nI d then 1 else 0) = _
                        rw [ih9 (by omega), hp.2 n (by omega), if_neg (nI_neg2 (by omega)).symm]
                        rfl
                  exact key _ (by omega)
                have q5 : cnt (upd h g (nI d)) (nI d) (g + 1) = cnt h (nI d) g + 1 := by
                  show cnt (upd h g (nI d)) (nI d) g + (if upd h g (nI d) g = nI d then 1 else 0) = _
                  rw [cnt_congr (h' := h) g (fun a ha => by simp only [upd, if_neg (show ¬ a = g by omega)]), if_pos (by simp [upd])]
                omega
              · exact Or.inl q
            show acc σ' = opA (acc σ) (opA (fo (fun d => NF P r (upd h g (nI d))) d) (NF P r (upd h g (nI d))))
            rw [hb, opA_e]
            exact ha
          · refine go_aload_n dX0_seatOnwards_75 rfl rfl ?_
            refine go_getR flX0_40 fs_27_3 dX0_seatOnwards_76 ?_
            refine go_iload_n dX0_seatOnwards_79 rfl rfl ?_
            refine go_iload_n dX0_seatOnwards_80 rfl rfl ?_
            refine go_callVv cvX0_76 os_36 (sp_give isT36 hg1 hG hD hT' hw (Or.inr ⟨d, hd1, rfl⟩)) (by omega) rfl rfl (Nat.le_of_ble_eq_true rfl) dX0_seatOnwards_81 (fun σ2 q2 => ?_)
            refine go_aload_n dX0_seatOnwards_84 rfl rfl ?_
            refine go_iload_n dX0_seatOnwards_85 rfl rfl ?_
            refine go_iconst (v := nI 1) dX0_seatOnwards_86 rfl ?_
            refine go_iadd dX0_seatOnwards_87 ?_
            refine go_callVv cvX0_105 os_27 (sp_av (av' := [rf Γ 27, .int (nI g + nI 1)]) (by rw [nI_add]) (ih σ2 (upd h g (nI d)) (g + 1) (by omega) (hP'.ot isT36 q2.2) q2.1 hp2 (hF.take hk hG hD hg1 (Or.inr ⟨d, hd1, bI_ne0.mp c72, rfl⟩)))) (by omega) rfl rfl (Nat.le_of_ble_eq_true rfl) dX0_seatOnwards_88 (fun σ3 q3 => ?_)
            refine go_aload_n dX0_seatOnwards_91 rfl rfl ?_
            refine go_getR flX0_40 fs_27_3 dX0_seatOnwards_92 ?_
            refine go_iload_n dX0_seatOnwards_95 rfl rfl ?_
            refine go_callVv cvX0_124 os_36 (sp_giveBack isT36 hg1 hG hD q3.1 (hp2.rok (by omega))) (by omega) rfl rfl (Nat.le_of_ble_eq_true rfl) dX0_seatOnwards_96 (fun σ4 q4 => ?_)
            refine go_iinc (v := nI (d + 1)) (L' := [_, _, _]) dX0_seatOnwards_99 rfl (nI_1 _) (by decide) rfl rfl ?_
            refine go_goto (tgt := 52) dX0_seatOnwards_102 (by decide) ?_
            refine ihm (d + 1) σ4 (by omega) (by omega) (by rw [hu] at q4; exact q4.1) ?_ (hO.trans ((OSt.ot q2.2).trans (q3.2.2.trans (OSt.ot q4.2))))
            show acc σ4 = opA (acc σ) (opA (fo (fun d => NF P r (upd h g (nI d))) d) (NF P r (upd h g (nI d))))
            rw [acc_ot q4.2, q3.2.1, acc_ot q2.2, ha, opA_assoc]
    refine sp_in (L := [some (rf Γ 27), some (.int (nI g)), none]) rfl (Nat.le_of_ble_eq_true rfl) rfl ?_
    refine go_iload_n dX0_seatOnwards_0 rfl rfl ?_
    refine go_aload_n dX0_seatOnwards_1 rfl rfl ?_
    refine go_getR flX0_27 fs_27_1 dX0_seatOnwards_2 ?_
    refine go_getI flX0_63 fs_6_1 dX0_seatOnwards_5 ?_
    rw [hP.2.1.1]
    refine go_icmp_lt (tgt := 50) dX0_seatOnwards_8 (by decide) (fun c8 => ?_) (fun c8 => ?_)
    · refine go_iconst (v := nI 0) dX0_seatOnwards_50 rfl ?_
      refine go_istore_n (L' := [_, _, _]) dX0_seatOnwards_51 rfl (by decide) rfl rfl ?_
      exact lp (pD P) 0 σ rfl (Nat.zero_le _) hT (opA_e _).symm OSt.rf
    · exact absurd (nI_lt (by omega) (by omega)) c8
set_option maxHeartbeats 1000000 in
theorem sp_seekContent {Γ : Gm} {σ : Mm} {P : Pb} (hS : SU σ P) (hk : Pok P) : Sp Γ 9 mX0_seekContent [rf Γ 27] σ (aV (fun σ' => acc σ' = atM P ∧ OF σ σ')) := by
  have hD := hS.1.1.2
  have hG := hS.1.2.1.2
  refine sp_in (L := [some (rf Γ 27)]) rfl (Nat.le_of_ble_eq_true rfl) rfl ?_
  have o1 : OSt σ (stI (stI σ 27 7 (nI 0)) 27 8 (-1)) := ⟨fun a q _ => funext fun y => (stI_ne (Or.inl q)).trans (stI_ne (Or.inl q)), rfl⟩
  refine go_aload_n dX0_seekContent_0 rfl rfl ?_
  refine go_iconst (v := nI 0) dX0_seekContent_1 rfl ?_
  refine go_putI fwX0_99 fs_27_7 dX0_seekContent_2 ?_
  refine go_aload_n dX0_seekContent_5 rfl rfl ?_
  refine go_iconst (v := (-1)) dX0_seekContent_6 rfl ?_
  refine go_putI fwX0_102 fs_27_8 dX0_seekContent_7 ?_
  refine go_aload_n dX0_seekContent_10 rfl rfl ?_
  refine go_callVv cvX0_79 os_27 (sp_setUp (hS.of o1.of)) (by omega) rfl rfl (Nat.le_of_ble_eq_true rfl) dX0_seekContent_11 (fun σ1 q1 => ?_)
  refine go_aload_n dX0_seekContent_14 rfl rfl ?_
  refine go_iconst (v := nI 0) dX0_seekContent_15 rfl ?_
  refine go_callVv cvX0_105 os_27 (sp_seat hk (pG P) σ1 (fun _ => -2) 0 (by omega) ((hS.of o1.of).ot q1.2).1 q1.1 ⟨fun g hg => absurd hg (Nat.not_lt_zero g), fun _ _ => rfl⟩ (Fea.wait hD)) (by omega) rfl rfl (Nat.le_of_ble_eq_true rfl) dX0_seekContent_16 (fun σ2 q2 => ?_)
  refine go_vret rfl dX0_seekContent_19 ?_
  refine ⟨rfl, ?_, o1.of.trans (q1.2.of.trans q2.2.2.of)⟩
  rw [q2.2.1, acc_ot q1.2]
  unfold acc
  simp (disch := omega) only [stI_at, stI_ne]
  rfl
