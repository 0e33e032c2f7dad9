/-! copyFrom, changesMind, allContent -/
def Copied (t u : Nat) (σ σ' : Mm) : Prop := (∀ d, d < 6 → σ'.1 (t + 1) d = σ.1 (u + 1) d ∧ σ'.1 (t + 2) d = σ.1 (u + 2) d) ∧ (∀ g, g < 5 → σ'.1 (t + 3) g = σ.1 (u + 3) g ∧ σ'.1 (t + 4) g = σ.1 (u + 4) g) ∧ (∀ k, k = 6 ∨ k = 7 ∨ k = 8 → σ'.1 t k = σ.1 u k) ∧ OT t σ σ'
theorem OT.sa {t a : Nat} {f : Nat → Int32} {σ σ' : Mm} (h : OT t σ σ') (h1 : t ≤ a) (h2 : a ≤ t + 4) : OT t σ (stA σ' a f) := ⟨fun x q => (stA_ne (by omega)).trans (h.1 x q), h.2⟩
theorem cpy_in {f g : Nat → Int32} {n k : Nat} (h : k < n) : va_cpy f g 0 0 n k = f k := by simp [va_cpy, h]
set_option maxHeartbeats 1000000 in
theorem sp_copyFrom {Γ : Gm} {σ : Mm} {t u : Nat} (ht : isT t) (hu : isT u) (htu : t + 4 < u ∨ u + 4 < t) : Sp Γ 1 mX7_copyFrom [rf Γ t, rf Γ u] σ (aV (Copied t u σ)) := by
  refine sp_in (L := [some (rf Γ t), some (rf Γ u)]) rfl (Nat.le_of_ble_eq_true rfl) rfl ?_
  refine go_aload_n dX7_copyFrom_0 rfl rfl ?_
  refine go_getR flX7_9 (fT_2 hu) dX7_copyFrom_1 ?_
  refine go_iconst (v := nI 0) dX7_copyFrom_4 rfl ?_
  refine go_aload_n dX7_copyFrom_5 rfl rfl ?_
  refine go_getR flX7_9 (fT_2 ht) dX7_copyFrom_6 ?_
  refine go_iconst (v := nI 0) dX7_copyFrom_9 rfl ?_
  refine go_bipush (v := nI 6) dX7_copyFrom_10 rfl ?_
  refine go_acopy rfl rfl rfl (aT_1 hu) (aT_1 ht) (by decide) (by decide) (by omega) (by decide) acX7_96 ac_nat ac_sta ac_ini (Nat.le_of_ble_eq_true rfl) dX7_copyFrom_12 ?_
  refine go_aload_n dX7_copyFrom_15 rfl rfl ?_
  refine go_getR flX7_15 (fT_3 hu) dX7_copyFrom_16 ?_
  refine go_iconst (v := nI 0) dX7_copyFrom_19 rfl ?_
  refine go_aload_n dX7_copyFrom_20 rfl rfl ?_
  refine go_getR flX7_15 (fT_3 ht) dX7_copyFrom_21 ?_
  refine go_iconst (v := nI 0) dX7_copyFrom_24 rfl ?_
  refine go_bipush (v := nI 6) dX7_copyFrom_25 rfl ?_
  refine go_acopy rfl rfl rfl (aT_2 hu) (aT_2 ht) (by decide) (by decide) (by omega) (by decide) acX7_96 ac_nat ac_sta ac_ini (Nat.le_of_ble_eq_true rfl) dX7_copyFrom_27 ?_
  refine go_aload_n dX7_copyFrom_30 rfl rfl ?_
  refine go_getR flX7_18 (fT_4 hu) dX7_copyFrom_31 ?_
  refine go_iconst (v := nI 0) dX7_copyFrom_34 rfl ?_
  refine go_aload_n dX7_copyFrom_35 rfl rfl ?_
  refine go_getR flX7_18 (fT_4 ht) dX7_copyFrom_36 ?_
  refine go_iconst (v := nI 0) dX7_copyFrom_39 rfl ?_
  refine go_iconst (v := nI 5) dX7_copyFrom_40 rfl ?_
  refine go_acopy rfl rfl rfl (aT_3 hu) (aT_3 ht) (by decide) (by decide) (by omega) (by decide) acX7_96 ac_nat ac_sta ac_ini (Nat.le_of_ble_eq_true rfl) dX7_copyFrom_41 ?_
  refine go_aload_n dX7_copyFrom_44 rfl rfl ?_
  refine go_getR flX7_21 (fT_5 hu) dX7_copyFrom_45 ?_
  refine go_iconst (v := nI 0) dX7_copyFrom_48 rfl ?_
  refine go_aload_n dX7_copyFrom_49 rfl rfl ?_
  refine go_getR flX7_21 (fT_5 ht) dX7_copyFrom_50 ?_
  refine go_iconst (v := nI 0) dX7_copyFrom_53 rfl ?_
  refine go_iconst (v := nI 5) dX7_copyFrom_54 rfl ?_
  refine go_acopy rfl rfl rfl (aT_4 hu) (aT_4 ht) (by decide) (by decide) (by omega) (by decide) acX7_96 ac_nat ac_sta ac_ini (Nat.le_of_ble_eq_true rfl) dX7_copyFrom_55 ?_
  refine go_aload_n dX7_copyFrom_58 rfl rfl ?_
  refine go_aload_n dX7_copyFrom_59 rfl rfl ?_
  refine go_getI flX7_24 (fT_6 hu) dX7_copyFrom_60 ?_
  refine go_putI fwX7_24 (fT_6 ht) dX7_copyFrom_63 ?_
  refine go_aload_n dX7_copyFrom_66 rfl rfl ?_
  refine go_aload_n dX7_copyFrom_67 rfl rfl ?_
  refine go_getI flX7_41 (fT_7 hu) dX7_copyFrom_68 ?_
  refine go_putI fwX7_41 (fT_7 ht) dX7_copyFrom_71 ?_
  refine go_aload_n dX7_copyFrom_74 rfl rfl ?_
  refine go_aload_n dX7_copyFrom_75 rfl rfl ?_
  refine go_getI flX7_64 (fT_8 hu) dX7_copyFrom_76 ?_
  refine go_putI fwX7_64 (fT_8 ht) dX7_copyFrom_79 ?_
  refine go_vret rfl dX7_copyFrom_82 ?_
  refine ⟨rfl, fun d hd => ?_, fun g hg => ?_, fun k hk => ?_, (((((((OT.rf.sa (by omega) (by omega)).sa (by omega) (by omega)).sa (by omega) (by omega)).sa (by omega) (by omega)).st (by omega) (by omega)).st (by omega) (by omega)).st (by omega) (by omega))⟩
  · simp (disch := omega) only [stI_ne, stA_at, stA_ne, cpy_in]
    exact ⟨trivial, trivial⟩
  · simp (disch := omega) only [stI_ne, stA_at, stA_ne, cpy_in]
    exact ⟨trivial, trivial⟩
  · rcases hk with rfl | rfl | rfl <;> simp (disch := omega) only [stI_at, stI_ne, stA_ne]
theorem sp_valueE {Γ : Gm} {σ : Mm} {t g d : Nat} {x : Int32} (ht : isT t) (hg : g < 5) (hd : d < 6) (e : x = nI d) : Sp Γ 1 mX7_value [rf Γ t, .int (nI g), .int x] σ (aP (valC σ t g d) σ) := by subst e; exact sp_value ht hg hd
theorem oth_back {P : Pb} {h : Nat → Int32} {g d : Nat} (hg : g < pG P) (hd : d < 2 ^ 31) : oth P (upd h g (-2)) g d = oth P h g d := by
  have hb := cnt_back (h := h) (x := -2) (y := nI d) hg (nI_neg2 hd).symm
  unfold oth
  rw [show upd h g (-2) g = -2 by simp [upd], if_neg (nI_neg2 hd).symm]
  by_cases q : h g = nI d
  · rw [if_pos q] at hb ⊢
    rw [← hb, ← nI_add, show nI 1 = 1 from rfl]
    grind
  · rw [if_neg q] at hb ⊢
    rw [← hb, Nat.add_zero]
theorem may_back {P : Pb} {h : Nat → Int32} {g d : Nat} (hg : g < pG P) (hd : d < 2 ^ 31) : mayM P (upd h g (-2)) g d = mayM P h g d := by unfold mayM; rw [oth_back hg hd]
theorem val_back {P : Pb} {h : Nat → Int32} {g d : Nat} (hg : g < pG P) (hd : d < 2 ^ 31) : valM P (upd h g (-2)) g d = valM P h g d := by unfold valM; rw [oth_back hg hd]
theorem best_back {P : Pb} {h : Nat → Int32} {g : Nat} (hg : g < pG P) (hD : pD P ≤ 6) : bestM P (upd h g (-2)) g = bestM P h g := by
  unfold bestM
  rw [fB_congr (pD P) (fun d hd => ⟨may_back hg (by omega), fun _ => val_back hg (by omega)⟩)]
theorem best_range {P : Pb} {h : Nat → Int32} {g : Nat} : bestM P h g = -1 ∨ ∃ d, d < pD P ∧ mayM P h g d = true ∧ bestM P h g = nI d := by
  rcases fB_range (m := mayM P h g) (v := valM P h g) (pD P) with q | ⟨d, h1, h2, h3, -⟩
  · exact Or.inl q
  · exact Or.inr ⟨d, h1, h2, h3⟩
theorem fB_none {m : Nat → Bool} {v : Nat → Int32} : ∀ n : Nat, n < 2 ^ 31 → (fB m v n).1 = -1 → ∀ d, d < n → m d = false
  | 0, _, _, d, hd => absurd hd (Nat.not_lt_zero d)
  | n + 1, hn, h, d, hd => by
    unfold fB at h
    by_cases hm : m n = true
    · rw [if_pos hm] at h
      by_cases c : (fB m v n).1 = -1 ∨ (fB m v n).2 < v n
      · rw [if_pos c] at h
        exact absurd h (nI_neg1 (by omega))
      · rw [if_neg c] at h
        exact absurd (Or.inl h) c
    · rw [if_neg hm] at h
      by_cases e : d = n
      · subst e; simpa using hm
      · exact fB_none n (by omega) h d (by omega)
/-- one changes his mind, as it is told: whether, and the row then -/
def mindB (P : Pb) (h : Nat → Int32) (g : Nat) : Bool := decide (bestM P h g ≠ -1) && (!(decide (0 ≤ h g) && decide (valM P h g (bestM P h g).toNatClampNeg ≤ valM P h g (h g).toNatClampNeg)) && decide (bestM P h g ≠ h g))
def mindR (P : Pb) (h : Nat → Int32) (g : Nat) : Nat → Int32 := if mindB P h g = true then upd h g (bestM P h g) else h
theorem upd_same (h : Nat → Int32) (g : Nat) : upd h g (h g) = h := by funext k; simp only [upd]; split <;> simp_all
theorem upd_upd (h : Nat → Int32) (g : Nat) (x y : Int32) : upd (upd h g x) g y = upd h g y := by funext k; simp only [upd]; split <;> rfl
/-- what the class does comes to the same, where what one has he may have -/
theorem mind_eq {P : Pb} {h : Nat → Int32} {g : Nat} (hD : pD P ≤ 6) (hr : h g = -1 ∨ ∃ d, d < pD P ∧ h g = nI d ∧ mayM P h g d = true) (x : Int32)
    (hx : x = if h g ≠ -1 ∧ bestM P h g ≠ -1 ∧ valM P h g (bestM P h g).toNatClampNeg ≤ valM P h g (h g).toNatClampNeg then h g else bestM P h g) : (decide (x ≠ h g)) = mindB P h g ∧ upd h g x = mindR P h g := by
  have key : (decide (x ≠ h g)) = mindB P h g := by
    unfold mindB
    rcases hr with e | ⟨d, hd, e, hm⟩
    · rw [e] at hx ⊢
      simp at hx
      subst hx
      by_cases q : bestM P h g = -1
      · simp [q]
      · have : ¬ (0 : Int32) ≤ -1 := by decide
        simp [q, this]
    · have e1 : h g ≠ -1 := by rw [e]; exact nI_neg1 (by omega)
      have e2 : 0 ≤ h g := by rw [e]; exact nI_pos' (by omega)
      have e3 : bestM P h g ≠ -1 := by
        intro q
        have := fB_none (pD P) (by omega) q d hd
        rw [hm] at this
        cases this
      by_cases c : valM P h g (bestM P h g).toNatClampNeg ≤ valM P h g (h g).toNatClampNeg
      · rw [if_pos ⟨e1, e3, c⟩] at hx
        simp [hx, c, e2]
      · rw [if_neg (fun z => c z.2.2)] at hx
        subst hx
        simp [e3, c]
  refine ⟨key, ?_⟩
  unfold mindR
  by_cases q : mindB P h g = true
  · rw [if_pos q]
    rw [q] at key
    have hne : x ≠ h g := by simpa using key
    split at hx
    · exact absurd hx hne
    · rw [hx]
  · rw [if_neg q]
    have q' : mindB P h g = false := by simpa using q
    rw [q'] at key
    have : x = h g := by simpa using key
    rw [this, upd_same]
set_option maxHeartbeats 1000000 in
theorem sp_changesMind {Γ : Gm} {σ : Mm} {t g : Nat} {P : Pb} {h : Nat → Int32} (ht : isT t) (hg : g < pG P) (hP : PI σ P) (hT : TI σ t P h) (hk : Pok P) (hr : Rok P h) (hm : h g = -1 ∨ ∃ d, d < pD P ∧ h g = nI d ∧ mayM P h g d = true) : Sp Γ 3 mX7_changesMind [rf Γ t, .int (nI g)] σ (aI (bI (mindB P h g)) (fun σ' => TI σ' t P (mindR P h g) ∧ OT t σ σ')) := by
  have hD := hP.1.2
  have hG := hP.2.1.2
  have hg5 : g < 5 := by omega
  refine sp_in (L := [some (rf Γ t), some (.int (nI g)), none, none]) rfl (Nat.le_of_ble_eq_true rfl) rfl ?_
  have hrow : σ.1 (t + 3) g = h g := by
    rw [(hT.2.2 g hg5 (Or.inr hg)).1]
    rcases hm with e | ⟨d, hd, e, -⟩
    · rw [e]; decide
    · rw [e]; exact hC_nI (by omega)
  have fin : ∀ (σ1 : Mm) (x : Int32), TI σ1 t P (upd h g (-2)) → OT t σ σ1 → (x = if h g ≠ -1 ∧ bestM P h g ≠ -1 ∧ valM P h g (bestM P h g).toNatClampNeg ≤ valM P h g (h g).toNatClampNeg then h g else bestM P h g) → Go Γ 3 mX7_changesMind (aI (bI (mindB P h g)) (fun σ' => TI σ' t P (mindR P h g) ∧ OT t σ σ')) 45 [some (rf Γ t), some (.int (nI g)), some (.int (h g)), some (.int x)] [] σ1 := by
    intro σ1 x hT1 hO1 hx
    obtain ⟨k1, k2⟩ := mind_eq hD hm x hx
    have hxr : x = -1 ∨ ∃ d, d < pD P ∧ x = nI d := by
      split at hx
      · rw [hx]
        rcases hm with e | ⟨d, hd, e, -⟩
        · exact Or.inl e
        · exact Or.inr ⟨d, hd, e⟩
      · rw [hx]
        rcases best_range (P := P) (h := h) (g := g) with e | ⟨d, hd, -, e⟩
        · exact Or.inl e
        · exact Or.inr ⟨d, hd, e⟩
    refine go_aload_n dX7_changesMind_45 rfl rfl ?_
    refine go_iload_n dX7_changesMind_46 rfl rfl ?_
    refine go_iload_n dX7_changesMind_47 rfl rfl ?_
    refine go_callVv cvX7_86 (osT ht) (sp_give ht hg hG hD hT1 (by simp [upd]) hxr) (by omega) rfl rfl (Nat.le_of_ble_eq_true rfl) dX7_changesMind_48 (fun σ2 q2 => ?_)
    refine go_iload_n dX7_changesMind_51 rfl rfl ?_
    refine go_iload_n dX7_changesMind_52 rfl rfl ?_
    refine go_icmp_eq (tgt := 60) dX7_changesMind_53 (by decide) (fun c53 => ?_) (fun c53 => ?_)
    · refine go_iconst (v := nI 0) dX7_changesMind_60 rfl ?_
      refine go_zret rfl dX7_changesMind_61 (by first | exact Or.inl rfl | exact Or.inr rfl | exact bI_01 _) ?_
      obtain ⟨q3, q4⟩ := q2
      rw [upd_upd, k2] at q3
      refine ⟨?_, q3, hO1.trans q4⟩
      rw [← k1]
      simp [bI, c53, nI]
    · refine go_iconst (v := nI 1) dX7_changesMind_56 rfl ?_
      refine go_goto (tgt := 61) dX7_changesMind_57 (by decide) ?_
      refine go_zret rfl dX7_changesMind_61 (by first | exact Or.inl rfl | exact Or.inr rfl | exact bI_01 _) ?_
      obtain ⟨q3, q4⟩ := q2
      rw [upd_upd, k2] at q3
      refine ⟨?_, q3, hO1.trans q4⟩
      rw [← k1]
      simp [bI, c53, nI]
  refine go_aload_n dX7_changesMind_0 rfl rfl ?_
  refine go_getR flX7_18 (fT_4 ht) dX7_changesMind_1 ?_
  refine go_iload_n dX7_changesMind_4 rfl rfl ?_
  refine go_iald (g) rfl (aT_3 ht) (by omega) (by decide) dX7_changesMind_5 ?_
  rw [hrow]
  refine go_istore_n (L' := [_, _, _, _]) dX7_changesMind_6 rfl (by decide) rfl rfl ?_
  refine go_aload_n dX7_changesMind_7 rfl rfl ?_
  refine go_iload_n dX7_changesMind_8 rfl rfl ?_
  refine go_callVv cvX7_78 (osT ht) (sp_giveBack ht hg hG hD hT hr) (by omega) rfl rfl (Nat.le_of_ble_eq_true rfl) dX7_changesMind_9 (fun σ1 q1 => ?_)
  obtain ⟨hT1, hO1⟩ := q1
  have hP1 := hP.ot ht hO1
  refine go_aload_n dX7_changesMind_12 rfl rfl ?_
  refine go_iload_n dX7_changesMind_13 rfl rfl ?_
  refine go_callVp cvX7_82 (osT ht) (sp_choice ht hg hP1 hT1 hk (by simp [upd])) (by omega) rfl rfl (Nat.le_of_ble_eq_true rfl) dX7_changesMind_14 ?_
  rw [best_back hg hD]
  refine go_istore_n (L' := [_, _, _, _]) dX7_changesMind_17 rfl (by decide) rfl rfl ?_
  refine go_iload_n dX7_changesMind_18 rfl rfl ?_
  refine go_iconst (v := (-1)) dX7_changesMind_19 rfl ?_
  refine go_icmp_eq (tgt := 45) dX7_changesMind_20 (by decide) (fun c20 => ?_) (fun c20 => ?_)
  · exact fin _ _ hT1 hO1 (by rw [if_neg (fun z => z.1 c20)])
  · refine go_iload_n dX7_changesMind_23 rfl rfl ?_
    refine go_iconst (v := (-1)) dX7_changesMind_24 rfl ?_
    refine go_icmp_eq (tgt := 45) dX7_changesMind_25 (by decide) (fun c25 => ?_) (fun c25 => ?_)
    · exact fin _ _ hT1 hO1 (by rw [if_neg (fun z => z.2.1 c25)])
    · obtain ⟨d, hd, e, -⟩ := hm.resolve_left c20
      obtain ⟨d3, hd3, -, e3⟩ := (best_range (P := P) (h := h) (g := g)).resolve_left c25
      refine go_aload_n dX7_changesMind_28 rfl rfl ?_
      refine go_iload_n dX7_changesMind_29 rfl rfl ?_
      refine go_iload_n dX7_changesMind_30 rfl rfl ?_
      refine go_callVp cvX7_74 (osT ht) (sp_valueE ht hg5 (by omega) e) (by omega) rfl rfl (Nat.le_of_ble_eq_true rfl) dX7_changesMind_31 ?_
      rw [valC_val hP1 hT1 hg hd, val_back hg (by omega)]
      refine go_aload_n dX7_changesMind_34 rfl rfl ?_
      refine go_iload_n dX7_changesMind_35 rfl rfl ?_
      refine go_iload_n dX7_changesMind_36 rfl rfl ?_
      refine go_callVp cvX7_74 (osT ht) (sp_valueE ht hg5 (by omega) e3) (by omega) rfl rfl (Nat.le_of_ble_eq_true rfl) dX7_changesMind_37 ?_
      rw [valC_val hP1 hT1 hg hd3, val_back hg (by omega)]
      refine go_icmp_lt (tgt := 45) dX7_changesMind_40 (by decide) (fun c40 => ?_) (fun c40 => ?_)
      · exact fin _ _ hT1 hO1 (by rw [if_neg (fun z => by have := z.2.2; rw [e, e3, nI_clamp (by omega), nI_clamp (by omega)] at this; exact Int32.not_lt.mpr this c40)])
      · refine go_iload_n dX7_changesMind_43 rfl rfl ?_
        refine go_istore_n (L' := [_, _, _, _]) dX7_changesMind_44 rfl (by decide) rfl rfl ?_
        exact fin _ _ hT1 hO1 (by rw [if_pos ⟨c20, c25, by rw [e, e3, nI_clamp (by omega), nI_clamp (by omega)]; exact Int32.not_lt.mp c40⟩])
