/-! draws and evenings; wants laid aside and back -/
def isO (o : Nat) : Prop := o = 30 ∨ o = 42
theorem rO {o g : Nat} (ho : isO o) (hg : g < 5) : rsh o g = some (o + 1 + g) := by
  rcases ho with rfl | rfl
  · exact co5 (P := fun g => rsh 30 g = some (30 + 1 + g)) (by decide) (by decide) (by decide) (by decide) (by decide) hg
  · exact co5 (P := fun g => rsh 42 g = some (42 + 1 + g)) (by decide) (by decide) (by decide) (by decide) (by decide) hg
theorem aO {o g : Nat} (ho : isO o) (hg : g < 5) : ash (o + 1 + g) = some 6 := by
  rcases ho with rfl | rfl
  · exact co5 (P := fun g => ash (30 + 1 + g) = some 6) (by decide) (by decide) (by decide) (by decide) (by decide) hg
  · exact co5 (P := fun g => ash (42 + 1 + g) = some 6) (by decide) (by decide) (by decide) (by decide) (by decide) hg
theorem rtO {o : Nat} (ho : isO o) : ∀ t rs, shpL[o]? = some (Sum.inr (Sum.inr (t, rs))) → (t = 1 ∨ t = 2) ∧ rs.length < 2 ^ 31 := by
  rcases ho with rfl | rfl
  · exact rt_30
  · exact rt_42
/-- rows of wants, copied to o's rows -/
def Saved (o n : Nat) (σ σ' : Mm) : Prop := (∀ g k, g < n → k < 6 → σ'.1 (o + 1 + g) k = σ.1 (9 + 2 * g) k) ∧ (∀ a, ¬ (o < a ∧ a < o + 6) → σ'.1 a = σ.1 a) ∧ σ'.2 = σ.2
def Loaded (o n : Nat) (σ σ' : Mm) : Prop := (∀ g k, g < n → k < 6 → σ'.1 (9 + 2 * g) k = σ.1 (o + 1 + g) k) ∧ (∀ g k, g < 5 → 6 ≤ k → σ'.1 (9 + 2 * g) k = σ.1 (9 + 2 * g) k) ∧ (∀ a, (∀ g, g < 5 → a ≠ 9 + 2 * g) → σ'.1 a = σ.1 a) ∧ σ'.2 = σ.2
theorem cpy_out {f g : Nat → Int32} {n k : Nat} (h : n ≤ k) : va_cpy f g 0 0 n k = g k := by simp [va_cpy, Nat.not_lt.mpr h]
set_option maxHeartbeats 1000000 in
theorem lp_saveWants {Γ : Gm} {σ : Mm} {o : Nat} (ho : isO o) : ∀ (m g : Nat) (σ' : Mm), 5 - g = m → g ≤ 5 → Saved o g σ σ' → Go Γ 1 mX6_saveWants (aV (Saved o 5 σ)) 2 [some (rf Γ 6), some (rf Γ o), some (.int (nI g))] [] σ' := by
  have ho30 : 30 ≤ o := by rcases ho with rfl | rfl <;> omega
  intro m
  induction m with
  | zero =>
    intro g σ' hm hg hs
    have e : g = 5 := by omega
    subst e
    refine go_iload_n dX6_saveWants_2 rfl rfl ?_
    refine go_iconst (v := nI 5) dX6_saveWants_3 rfl ?_
    refine go_icmp_ge (tgt := 32) dX6_saveWants_4 (by decide) (fun c4 => ?_) (fun c4 => ?_)
    · refine go_vret rfl dX6_saveWants_32 ?_
      exact ⟨rfl, hs⟩
    · exact absurd (Int32.le_refl _) c4
  | succ m ih =>
    intro g σ' hm hg hs
    have hg : g < 5 := by omega
    refine go_iload_n dX6_saveWants_2 rfl rfl ?_
    refine go_iconst (v := nI 5) dX6_saveWants_3 rfl ?_
    refine go_icmp_ge (tgt := 32) dX6_saveWants_4 (by decide) (fun c4 => ?_) (fun c4 => ?_)
    · exact absurd c4 (nI_ge (by omega) (by omega))
    · refine go_aload_n dX6_saveWants_7 rfl rfl ?_
      refine go_getR flX6_11 fs_6_0 dX6_saveWants_8 ?_
      refine go_iload_n dX6_saveWants_11 rfl rfl ?_
      refine go_aald (g) rfl (rG hg) rt_7 dX6_saveWants_12 ?_
      refine go_getR flX6_22 (fG_0 hg) dX6_saveWants_13 ?_
      refine go_iconst (v := nI 0) dX6_saveWants_16 rfl ?_
      refine go_aload_n dX6_saveWants_17 rfl rfl ?_
      refine go_iload_n dX6_saveWants_18 rfl rfl ?_
      refine go_aald (g) rfl (rO ho hg) (rtO ho) dX6_saveWants_19 ?_
      refine go_iconst (v := nI 0) dX6_saveWants_20 rfl ?_
      refine go_bipush (v := nI 6) dX6_saveWants_21 rfl ?_
      refine go_acopy rfl rfl rfl (aW hg) (aO ho hg) (by decide) (by decide) (by omega) (by decide) acX6_26 ac_nat ac_sta ac_ini (Nat.le_of_ble_eq_true rfl) dX6_saveWants_23 ?_
      refine go_iinc (v := nI (g + 1)) (L' := [_, _, _]) dX6_saveWants_26 rfl (nI_1 _) (by decide) rfl rfl ?_
      refine go_goto (tgt := 2) dX6_saveWants_29 (by decide) ?_
      refine ih (g + 1) _ (by omega) (by omega) ⟨fun a k ha hk => ?_, fun a ha => ?_, hs.2.2⟩
      · by_cases q : a = g
        · subst q
          rw [stA_at, cpy_in hk, hs.2.1 (9 + 2 * a) (by omega)]
        · rw [stA_ne (by omega)]; exact hs.1 a k (by omega) hk
      · rw [stA_ne (by omega)]; exact hs.2.1 a ha
set_option maxHeartbeats 1000000 in
theorem sp_saveWants {Γ : Gm} {σ : Mm} {o : Nat} (ho : isO o) : Sp Γ 1 mX6_saveWants [rf Γ 6, rf Γ o] σ (aV (Saved o 5 σ)) := by
  refine sp_in (L := [some (rf Γ 6), some (rf Γ o), none]) rfl (Nat.le_of_ble_eq_true rfl) rfl ?_
  refine go_iconst (v := nI 0) dX6_saveWants_0 rfl ?_
  refine go_istore_n (L' := [_, _, _]) dX6_saveWants_1 rfl (by decide) rfl rfl ?_
  exact lp_saveWants ho 5 0 σ rfl (by omega) ⟨fun g k h => absurd h (Nat.not_lt_zero _), fun _ _ => rfl, rfl⟩
set_option maxHeartbeats 1000000 in
theorem lp_loadWants {Γ : Gm} {σ : Mm} {o : Nat} (ho : isO o) : ∀ (m g : Nat) (σ' : Mm), 5 - g = m → g ≤ 5 → Loaded o g σ σ' → Go Γ 1 mX6_loadWants (aV (Loaded o 5 σ)) 2 [some (rf Γ 6), some (rf Γ o), some (.int (nI g))] [] σ' := by
  have ho30 : 30 ≤ o := by rcases ho with rfl | rfl <;> omega
  intro m
  induction m with
  | zero =>
    intro g σ' hm hg hs
    have e : g = 5 := by omega
    subst e
    refine go_iload_n dX6_loadWants_2 rfl rfl ?_
    refine go_iconst (v := nI 5) dX6_loadWants_3 rfl ?_
    refine go_icmp_ge (tgt := 32) dX6_loadWants_4 (by decide) (fun c4 => ?_) (fun c4 => ?_)
    · refine go_vret rfl dX6_loadWants_32 ?_
      exact ⟨rfl, hs⟩
    · exact absurd (Int32.le_refl _) c4
  | succ m ih =>
    intro g σ' hm hg hs
    have hg : g < 5 := by omega
    refine go_iload_n dX6_loadWants_2 rfl rfl ?_
    refine go_iconst (v := nI 5) dX6_loadWants_3 rfl ?_
    refine go_icmp_ge (tgt := 32) dX6_loadWants_4 (by decide) (fun c4 => ?_) (fun c4 => ?_)
    · exact absurd c4 (nI_ge (by omega) (by omega))
    · refine go_aload_n dX6_loadWants_7 rfl rfl ?_
      refine go_iload_n dX6_loadWants_8 rfl rfl ?_
      refine go_aald (g) rfl (rO ho hg) (rtO ho) dX6_loadWants_9 ?_
      refine go_iconst (v := nI 0) dX6_loadWants_10 rfl ?_
      refine go_aload_n dX6_loadWants_11 rfl rfl ?_
      refine go_getR flX6_11 fs_6_0 dX6_loadWants_12 ?_
      refine go_iload_n dX6_loadWants_15 rfl rfl ?_
      refine go_aald (g) rfl (rG hg) rt_7 dX6_loadWants_16 ?_
      refine go_getR flX6_22 (fG_0 hg) dX6_loadWants_17 ?_
      refine go_iconst (v := nI 0) dX6_loadWants_20 rfl ?_
      refine go_bipush (v := nI 6) dX6_loadWants_21 rfl ?_
      refine go_acopy rfl rfl rfl (aO ho hg) (aW hg) (by decide) (by decide) (by omega) (by decide) acX6_26 ac_nat ac_sta ac_ini (Nat.le_of_ble_eq_true rfl) dX6_loadWants_23 ?_
      refine go_iinc (v := nI (g + 1)) (L' := [_, _, _]) dX6_loadWants_26 rfl (nI_1 _) (by decide) rfl rfl ?_
      refine go_goto (tgt := 2) dX6_loadWants_29 (by decide) ?_
      refine ih (g + 1) _ (by omega) (by omega) ⟨fun a k ha hk => ?_, fun a k ha hk => ?_, fun a ha => ?_, hs.2.2.2⟩
      · by_cases q : a = g
        · subst q
          rw [stA_at, cpy_in hk, hs.2.2.1 (o + 1 + a) (by omega)]
        · rw [stA_ne (by omega)]; exact hs.1 a k (by omega) hk
      · by_cases q : a = g
        · subst q
          rw [stA_at, cpy_out hk]; exact hs.2.1 a k ha hk
        · rw [stA_ne (by omega)]; exact hs.2.1 a k ha hk
      · rw [stA_ne (ha g hg)]; exact hs.2.2.1 a ha
set_option maxHeartbeats 1000000 in
theorem sp_loadWants {Γ : Gm} {σ : Mm} {o : Nat} (ho : isO o) : Sp Γ 1 mX6_loadWants [rf Γ 6, rf Γ o] σ (aV (Loaded o 5 σ)) := by
  refine sp_in (L := [some (rf Γ 6), some (rf Γ o), none]) rfl (Nat.le_of_ble_eq_true rfl) rfl ?_
  refine go_iconst (v := nI 0) dX6_loadWants_0 rfl ?_
  refine go_istore_n (L' := [_, _, _]) dX6_loadWants_1 rfl (by decide) rfl rfl ?_
  exact lp_loadWants ho 5 0 σ rfl (by omega) ⟨fun g k h => absurd h (Nat.not_lt_zero _), fun _ _ _ _ => rfl, fun _ _ => rfl, rfl⟩
theorem u27 : ∀ i, i ≠ 9 → fsh 27 i ≠ some (0, 1) := by
  intro i hi q
  obtain ⟨tpl, e1, e2⟩ := fsh_spec q
  rw [show shpL[27]? = some (Sum.inl (0, [5, 8, 20, 38, 30, 31, 32, 0, 0, 1])) by decide] at e1
  cases e1
  have hl : i < 10 := (List.getElem?_eq_some_iff.mp e2).1
  have h : ∀ i, i < 10 → i ≠ 9 → ([5, 8, 20, 38, 30, 31, 32, 0, 0, 1] : List Nat)[i]? ≠ some 1 := by decide
  exact h i hl hi e2
theorem u58 : ∀ i, i ≠ 36 → fsh 58 i ≠ some (9, 1) := by
  intro i hi q
  obtain ⟨tpl, e1, e2⟩ := fsh_spec q
  rw [show shpL[58]? = some (Sum.inl (9, [61, 0, 62, 63, 0, 0, 0, 0, 0, 0, 0, 0, 64, 65, 0, 66, 67, 68, 0, 0, 0, 69, 0, 0, 70, 0, 71, 0, 0, 0, 0, 0, 72, 73, 74, 75, 1])) by decide] at e1
  cases e1
  have hl : i < 37 := (List.getElem?_eq_some_iff.mp e2).1
  have h : ∀ i, i < 37 → i ≠ 36 → ([61, 0, 62, 63, 0, 0, 0, 0, 0, 0, 0, 0, 64, 65, 0, 66, 67, 68, 0, 0, 0, 69, 0, 0, 70, 0, 71, 0, 0, 0, 0, 0, 72, 73, 74, 75, 1] : List Nat)[i]? ≠ some 1 := by decide
  exact h i hl hi e2
/-- the next seed, and a draw of n by it -/
def nxt (s : Nat) : Nat := (1103515245 * s + 12345) % 2147483648
def drw (s n : Nat) : Nat := s / 65536 % n
theorem nxt_lt (s : Nat) : nxt s < 2147483648 := Nat.mod_lt _ (by omega)
set_option maxHeartbeats 1000000 in
theorem sp_draw {Γ : Gm} {σ : Mm} {s b : Nat} (hs : s < 2147483648) (hb : 0 < b) (hb2 : b < 2 ^ 31) (e : σ.2 27 = lN s) : Sp Γ 1 mX0_draw [rf Γ 27, .int (nI b)] σ (aI (nI (drw (nxt s) b)) (fun σ' => σ' = stL σ 27 (lN (nxt s)))) := by
  refine sp_in (L := [some (rf Γ 27), some (.int (nI b))]) rfl (Nat.le_of_ble_eq_true rfl) rfl ?_
  have h1 : (1103515245 : Int64) * lN s + 12345 = lN (1103515245 * s + 12345) := by
    rw [show (1103515245 : Int64) = lN 1103515245 from rfl, show (12345 : Int64) = lN 12345 from rfl, lN_mul, lN_add]
  have h2 : lN (1103515245 * s + 12345) - lN (1103515245 * s + 12345) / 2147483648 * 2147483648 = lN (nxt s) := by
    rw [show (2147483648 : Int64) = lN 2147483648 from rfl]
    exact pk_lRem (by omega) (by omega) (by omega)
  have hn := nxt_lt s
  refine go_aload_n dX0_draw_0 rfl rfl ?_
  refine go_ldc2 (v := 1103515245) dX0_draw_1 klX0_193 ?_
  refine go_aload_n dX0_draw_4 rfl rfl ?_
  refine go_getL flX0_179 fs_27_9 dX0_draw_5 ?_
  rw [e]
  refine go_lmul dX0_draw_8 ?_
  refine go_ldc2 (v := 12345) dX0_draw_9 klX0_195 ?_
  refine go_ladd dX0_draw_12 ?_
  refine go_ldc2 (v := 2147483648) dX0_draw_13 klX0_197 ?_
  refine go_lrem dX0_draw_16 (by decide) ?_
  refine go_putL fwX0_179 fs_27_9 (by exact u27) dX0_draw_17 ?_
  refine go_iload_n dX0_draw_20 rfl rfl ?_
  refine go_iconst (v := nI 1) dX0_draw_21 rfl ?_
  refine go_icmp_ge (tgt := 29) dX0_draw_22 (by decide) (fun c22 => ?_) (fun c22 => ?_)
  · refine go_aload_n dX0_draw_29 rfl rfl ?_
    refine go_getL flX0_179 fs_27_9 dX0_draw_30 ?_
    refine go_ldc2 (v := 65536) dX0_draw_33 klX0_199 ?_
    refine go_ldiv dX0_draw_36 (by decide) ?_
    refine go_iload_n dX0_draw_37 rfl rfl ?_
    refine go_i2l dX0_draw_38 ?_
    refine go_lrem dX0_draw_39 (by rw [nI_l hb2, show (0 : Int64) = lN 0 from rfl, lN_eq hb2 (by omega)]; omega) ?_
    refine go_l2i dX0_draw_40 ?_
    refine go_iret rfl dX0_draw_41 ?_
    rw [h1, h2]
    refine ⟨?_, rfl⟩
    rw [stL_at, nI_l hb2, show (65536 : Int64) = lN 65536 from rfl, pk_lDiv (by omega) (by omega) (by omega), pk_lRem (by omega) (by omega) (by omega), lN_i]
    rfl
  · exact absurd (nI_le (a := 1) (by omega) hb2) c22

/-- so many evenings: the data, the seed and the joy then -/
def evS (P : Pb) (s : Nat) : Nat → Pb × Nat × Int32
  | 0 => (P, s, 0)
  | k + 1 =>
    (setWa (evS P s k).1 (drw (nxt (nxt (nxt (evS P s k).2.1))) (pG P)) (drw (nxt (nxt (evS P s k).2.1)) (pD P)) (nI (drw (nxt (nxt (nxt (nxt (evS P s k).2.1)))) 10)),
     nxt (nxt (nxt (nxt (evS P s k).2.1))),
     (evS P s k).2.2 + joyA (setWa (evS P s k).1 (drw (nxt (nxt (nxt (evS P s k).2.1))) (pG P)) (drw (nxt (nxt (evS P s k).2.1)) (pD P)) (nI (drw (nxt (nxt (nxt (nxt (evS P s k).2.1)))) 10)))
        (lay (setWa (evS P s k).1 (drw (nxt (nxt (nxt (evS P s k).2.1))) (pG P)) (drw (nxt (nxt (evS P s k).2.1)) (pD P)) (nI (drw (nxt (nxt (nxt (nxt (evS P s k).2.1)))) 10))) (drw (nxt (evS P s k).2.1) (pG P))))
theorem evS_same (P : Pb) (s : Nat) : ∀ k : Nat, pD (evS P s k).1 = pD P ∧ pG (evS P s k).1 = pG P ∧ pSt (evS P s k).1 = pSt P ∧ pUr (evS P s k).1 = pUr P ∧ pMu (evS P s k).1 = pMu P ∧ pLo (evS P s k).1 = pLo P
  | 0 => ⟨rfl, rfl, rfl, rfl, rfl, rfl⟩
  | k + 1 => evS_same P s k
theorem evS_lt (P : Pb) {s : Nat} (hs : s < 2147483648) : ∀ k : Nat, (evS P s k).2.1 < 2147483648
  | 0 => hs
  | _ + 1 => nxt_lt _
/-- the memory in the midst of evenings: set aside, and else as it was -/
def EvI (σ σ' : Mm) (P : Pb) (s : Nat) : Prop := SU σ' P ∧ σ'.2 27 = lN s ∧ (∀ g k, g < 5 → k < 6 → σ'.1 (31 + g) k = σ.1 (9 + 2 * g) k) ∧ (∀ g k, g < 5 → 6 ≤ k → σ'.1 (9 + 2 * g) k = σ.1 (9 + 2 * g) k) ∧ (∀ a, (a < 27 ∨ 40 < a) → (∀ g, g < 5 → a ≠ 9 + 2 * g) → σ'.1 a = σ.1 a) ∧ ∀ a, a ≠ 27 → σ'.2 a = σ.2 a
/-- only the forecast's own cells are new -/
def OF (σ σ' : Mm) : Prop := (∀ a, a < 27 ∨ 40 < a → σ'.1 a = σ.1 a) ∧ ∀ a, a ≠ 27 → σ'.2 a = σ.2 a
theorem OF.rf {σ : Mm} : OF σ σ := ⟨fun _ _ => rfl, fun _ _ => rfl⟩
theorem OF.trans {σ σ1 σ2 : Mm} (h : OF σ σ1) (h2 : OF σ1 σ2) : OF σ σ2 := ⟨fun a q => (h2.1 a q).trans (h.1 a q), fun a q => (h2.2 a q).trans (h.2 a q)⟩
theorem OT.of {σ σ' : Mm} (h : OT 36 σ σ') : OF σ σ' := ⟨fun a q => h.1 a (by omega), fun a _ => by rw [h.2]⟩
theorem SU.of {σ σ' : Mm} {P : Pb} (h : OF σ σ') (hS : SU σ P) : SU σ' P := by
  obtain ⟨⟨⟨a1, a2⟩, ⟨b1, b2⟩, c, d⟩, l1, l2, l3, l4⟩ := hS
  refine ⟨⟨⟨by rw [h.1 3 (by omega)]; exact a1, a2⟩, ⟨by rw [h.1 6 (by omega)]; exact b1, b2⟩, fun k hk => ?_, fun g hg => ?_⟩, by rw [h.1 3 (by omega)]; exact l1, by rw [h.1 18 (by omega)]; exact l2, by rw [h.1 18 (by omega)]; exact l3, l4⟩
  · rw [h.1 4 (by omega), h.1 5 (by omega)]; exact c k hk
  · rw [h.1 (8 + 2 * g) (by omega), h.1 (9 + 2 * g) (by omega)]; exact d g hg
theorem drw_lt {s n : Nat} (h : 0 < n) : drw s n < n := Nat.mod_lt _ h
theorem EvI.seed {σ σ' : Mm} {P : Pb} {s s' : Nat} (h : EvI σ σ' P s) : EvI σ (stL σ' 27 (lN s')) P s' :=
  ⟨h.1, stL_at, h.2.2.1, h.2.2.2.1, h.2.2.2.2.1, fun a q => (show (if a = 27 then lN s' else σ'.2 a) = σ.2 a by rw [if_neg q]; exact h.2.2.2.2.2 a q)⟩
theorem EvI.want {σ σ' : Mm} {P : Pb} {s g d : Nat} {v : Int32} (h : EvI σ σ' P s) (hg : g < pG P) (hd : d < pD P) : EvI σ (stI σ' (9 + 2 * g) d v) (setWa P g d v) s := by
  obtain ⟨⟨⟨⟨a1, a2⟩, ⟨b1, b2⟩, c, dd⟩, l1, l2, l3, l4⟩, h2, h3, h4, h5, h6⟩ := h
  have a2' : pD P ≤ 6 := a2
  have b2' : pG P ≤ 5 := b2
  refine ⟨⟨⟨⟨by rw [stI_ne (by omega)]; exact a1, a2⟩, ⟨by rw [stI_ne (by omega)]; exact b1, b2⟩, fun k hk => ?_, fun a ha => ⟨?_, ?_, fun b hb => ?_⟩⟩, by rw [stI_ne (by omega)]; exact l1, by rw [stI_ne (by omega)]; exact l2, by rw [stI_ne (by omega)]; exact l3, l4⟩, h2, fun a k ha hk => ?_, fun a k ha hk => ?_, fun a q1 q2 => ?_, h6⟩
  · rw [stI_ne (by omega), stI_ne (by omega)]; exact c k hk
  · rw [stI_ne (by omega)]; exact (dd a ha).1
  · rw [stI_ne (by omega)]; exact (dd a ha).2.1
  · show (stI σ' (9 + 2 * g) d v).1 (9 + 2 * a) b = if a = g ∧ b = d then v else pWa P a b
    by_cases q : a = g ∧ b = d
    · rw [if_pos q, q.1, q.2, stI_at]
    · rw [if_neg q, stI_ne (by omega)]; exact (dd a ha).2.2 b hb
  · rw [stI_ne (by omega)]; exact h3 a k ha hk
  · rw [stI_ne (by omega)]; exact h4 a k ha hk
  · exact (funext fun y => stI_ne (Or.inl (q2 g (by omega)))).trans (h5 a q1 q2)
theorem EvI.ot {σ σ' σ2 : Mm} {P : Pb} {s : Nat} (h : EvI σ σ' P s) (ho : OT 36 σ' σ2) : EvI σ σ2 P s := by
  obtain ⟨h1, h2, h3, h4, h5, h6⟩ := h
  refine ⟨h1.ot ho, by rw [ho.2]; exact h2, fun g k hg hk => ?_, fun g k hg hk => ?_, fun a q1 q2 => ?_, fun a q => by rw [ho.2]; exact h6 a q⟩
  · rw [ho.1 (31 + g) (by omega)]; exact h3 g k hg hk
  · rw [ho.1 (9 + 2 * g) (by omega)]; exact h4 g k hg hk
  · rw [ho.1 a (by omega)]; exact h5 a q1 q2
set_option maxHeartbeats 2000000 in
theorem lp_evenings {Γ : Gm} {σ : Mm} {P : Pb} {s n : Nat} (hs : s < 2147483648) (hn : n ≤ 60) (hG : 0 < pG P) (hD : 0 < pD P) (hk : Pok P) {x2 : Int32} : ∀ (m k : Nat) (σ' : Mm), n - k = m → k ≤ n → EvI σ σ' (evS P s k).1 (evS P s k).2.1 → Go Γ 5 mX0_joyOfEvenings (aI (evS P s n).2.2 (fun σ' => OF σ σ' ∧ σ'.2 27 = lN (evS P s n).2.1)) 22 [some (rf Γ 27), some (.int (nI n)), some (.int x2), some (.int (evS P s k).2.2), some (.int (nI k)), none, none, none] [] σ' := by
  intro m
  induction m with
  | zero =>
    intro k σ' hm hk1 hE
    have e : k = n := by omega
    subst e
    refine go_iload dX0_joyOfEvenings_22 rfl ?_
    refine go_iload_n dX0_joyOfEvenings_24 rfl rfl ?_
    refine go_icmp_ge (tgt := 105) dX0_joyOfEvenings_25 (by decide) (fun c25 => ?_) (fun c25 => ?_)
    · refine go_aload_n dX0_joyOfEvenings_105 rfl rfl ?_
      refine go_getR flX0_27 fs_27_1 dX0_joyOfEvenings_106 ?_
      refine go_aload_n dX0_joyOfEvenings_109 rfl rfl ?_
      refine go_getR flX0_20 fs_27_6 dX0_joyOfEvenings_110 ?_
      refine go_callVv cvX0_190 os_6 (sp_loadWants (Or.inl rfl)) (by omega) rfl rfl (Nat.le_of_ble_eq_true rfl) dX0_joyOfEvenings_113 (fun σ2 q2 => ?_)
      refine go_iload_n dX0_joyOfEvenings_116 rfl rfl ?_
      refine go_iret rfl dX0_joyOfEvenings_117 ?_
      obtain ⟨w1, w2, w3, w4⟩ := q2
      obtain ⟨-, e2, e3, e4, e5, e6⟩ := hE
      refine ⟨rfl, ⟨fun a ha => ?_, fun a ha => by rw [w4]; exact e6 a ha⟩, by rw [w4]; exact e2⟩
      by_cases q : ∃ g, g < 5 ∧ a = 9 + 2 * g
      · obtain ⟨g, hg, rfl⟩ := q
        funext y
        by_cases hy : y < 6
        · rw [w1 g y hg hy, show 30 + 1 + g = 31 + g by omega, e3 g y hg hy]
        · rw [w2 g y hg (by omega), e4 g y hg (by omega)]
      · have q' : ∀ g, g < 5 → a ≠ 9 + 2 * g := fun g hg z => q ⟨g, hg, z⟩
        rw [w3 a q', e5 a ha q']
    · exact absurd (Int32.le_refl _) c25
  | succ m ih =>
    intro k σ' hm hk1 hE
    obtain ⟨z1, z2, z3, -⟩ := evS_same P s k
    have hs0 := evS_lt P hs k
    have hG5 : pG P ≤ 5 := by have := hE.1.1.2.1.2; rw [z2] at this; exact this
    have hD6 : pD P ≤ 6 := by have := hE.1.1.1.2; rw [z1] at this; exact this
    have hsz : σ'.1 6 1 = nI (pG P) := by rw [hE.1.1.2.1.1, z2]
    have hds : σ'.1 3 2 = nI (pD P) := by rw [hE.1.1.1.1, z1]
    have g1 : drw (nxt (nxt (nxt (evS P s k).2.1))) (pG P) < 5 := by have := drw_lt (s := nxt (nxt (nxt (evS P s k).2.1))) hG; omega
    have d1 : drw (nxt (nxt (evS P s k).2.1)) (pD P) < 6 := by have := drw_lt (s := nxt (nxt (evS P s k).2.1)) hD; omega
    have hE4 : EvI σ (stI (stL (stL (stL (stL σ' 27 (lN (nxt (evS P s k).2.1))) 27 (lN (nxt (nxt (evS P s k).2.1)))) 27 (lN (nxt (nxt (nxt (evS P s k).2.1))))) 27 (lN (nxt (nxt (nxt (nxt (evS P s k).2.1)))))) (9 + 2 * drw (nxt (nxt (nxt (evS P s k).2.1))) (pG P)) (drw (nxt (nxt (evS P s k).2.1)) (pD P)) (nI (drw (nxt (nxt (nxt (nxt (evS P s k).2.1)))) 10))) (evS P s (k + 1)).1 (evS P s (k + 1)).2.1 :=
      ((((hE.seed).seed).seed).seed).want (by rw [z2]; exact drw_lt hG) (by rw [z1]; exact drw_lt hD)
    have hk' : Pok (evS P s (k + 1)).1 := by obtain ⟨y1, -, y3, -⟩ := evS_same P s (k + 1); intro d hd; rw [y1] at hd; rw [y3]; exact hk d hd
    have hf' : drw (nxt (evS P s k).2.1) (pG P) < pG (evS P s (k + 1)).1 := by rw [(evS_same P s (k + 1)).2.1]; exact drw_lt hG
    refine go_iload dX0_joyOfEvenings_22 rfl ?_
    refine go_iload_n dX0_joyOfEvenings_24 rfl rfl ?_
    refine go_icmp_ge (tgt := 105) dX0_joyOfEvenings_25 (by decide) (fun c25 => ?_) (fun c25 => ?_)
    · exact absurd c25 (nI_ge (by omega) (by omega))
    · refine go_aload_n dX0_joyOfEvenings_28 rfl rfl ?_
      refine go_aload_n dX0_joyOfEvenings_29 rfl rfl ?_
      refine go_getR flX0_27 fs_27_1 dX0_joyOfEvenings_30 ?_
      refine go_getI flX0_63 fs_6_1 dX0_joyOfEvenings_33 ?_
      rw [hsz]
      refine go_callVi cvX0_187 os_27 (sp_draw hs0 hG (by omega) hE.2.1) (by omega) rfl rfl (Nat.le_of_ble_eq_true rfl) dX0_joyOfEvenings_36 (fun σ1 q1 => ?_)
      subst q1
      refine go_istore (L' := [_, _, _, _, _, _, _, _]) dX0_joyOfEvenings_39 (by decide) rfl rfl ?_
      refine go_aload_n dX0_joyOfEvenings_41 rfl rfl ?_
      refine go_aload_n dX0_joyOfEvenings_42 rfl rfl ?_
      refine go_getR flX0_23 fs_27_0 dX0_joyOfEvenings_43 ?_
      refine go_getI flX0_117 fs_3_2 dX0_joyOfEvenings_46 ?_
      rw [show (stL σ' 27 (lN (nxt (evS P s k).2.1))).1 3 2 = nI (pD P) from hds]
      refine go_callVi cvX0_187 os_27 (sp_draw (nxt_lt _) hD (by omega) stL_at) (by omega) rfl rfl (Nat.le_of_ble_eq_true rfl) dX0_joyOfEvenings_49 (fun σ1 q1 => ?_)
      subst q1
      refine go_istore (L' := [_, _, _, _, _, _, _, _]) dX0_joyOfEvenings_52 (by decide) rfl rfl ?_
      refine go_aload_n dX0_joyOfEvenings_54 rfl rfl ?_
      refine go_aload_n dX0_joyOfEvenings_55 rfl rfl ?_
      refine go_getR flX0_27 fs_27_1 dX0_joyOfEvenings_56 ?_
      refine go_getI flX0_63 fs_6_1 dX0_joyOfEvenings_59 ?_
      rw [show (stL (stL σ' 27 (lN (nxt (evS P s k).2.1))) 27 (lN (nxt (nxt (evS P s k).2.1)))).1 6 1 = nI (pG P) from hsz]
      refine go_callVi cvX0_187 os_27 (sp_draw (nxt_lt _) hG (by omega) stL_at) (by omega) rfl rfl (Nat.le_of_ble_eq_true rfl) dX0_joyOfEvenings_62 (fun σ1 q1 => ?_)
      subst q1
      refine go_istore (L' := [_, _, _, _, _, _, _, _]) dX0_joyOfEvenings_65 (by decide) rfl rfl ?_
      refine go_aload_n dX0_joyOfEvenings_67 rfl rfl ?_
      refine go_getR flX0_27 fs_27_1 dX0_joyOfEvenings_68 ?_
      refine go_getR flX0_134 fs_6_0 dX0_joyOfEvenings_71 ?_
      refine go_iload dX0_joyOfEvenings_74 rfl ?_
      refine go_aald (drw (nxt (nxt (nxt (evS P s k).2.1))) (pG P)) rfl (rG g1) rt_7 dX0_joyOfEvenings_76 ?_
      refine go_getR flX0_154 (fG_0 g1) dX0_joyOfEvenings_77 ?_
      refine go_iload dX0_joyOfEvenings_80 rfl ?_
      refine go_aload_n dX0_joyOfEvenings_82 rfl rfl ?_
      refine go_bipush (v := nI 10) dX0_joyOfEvenings_83 rfl ?_
      refine go_callVi cvX0_187 os_27 (sp_draw (nxt_lt _) (by omega) (by omega) stL_at) (by omega) rfl rfl (Nat.le_of_ble_eq_true rfl) dX0_joyOfEvenings_85 (fun σ1 q1 => ?_)
      subst q1
      refine go_iast (drw (nxt (nxt (evS P s k).2.1)) (pD P)) rfl (aW g1) d1 (by decide) dX0_joyOfEvenings_88 ?_
      refine go_iload_n dX0_joyOfEvenings_89 rfl rfl ?_
      refine go_aload_n dX0_joyOfEvenings_90 rfl rfl ?_
      refine go_iload dX0_joyOfEvenings_91 rfl ?_
      refine go_iconst (v := (-1)) dX0_joyOfEvenings_93 rfl ?_
      refine go_callVi cvX0_96 os_27 (sp_joyFrom (g := -1) hE4.1 hk' hf' (Or.inl rfl)) (by omega) rfl rfl (Nat.le_of_ble_eq_true rfl) dX0_joyOfEvenings_94 (fun σ2 q2 => ?_)
      refine go_iadd dX0_joyOfEvenings_97 ?_
      refine go_istore_n (L' := [_, _, _, _, _, _, _, _]) dX0_joyOfEvenings_98 rfl (by decide) rfl rfl ?_
      refine go_iinc (v := nI (k + 1)) (L' := [_, _, _, _, _, _, _, _]) dX0_joyOfEvenings_99 rfl (nI_1 _) (by decide) rfl rfl ?_
      refine go_goto (tgt := 22) dX0_joyOfEvenings_102 (by decide) ?_
      have := ih (k + 1) σ2 (by omega) (by omega) (hE4.ot q2)
      exact go_sub [true, true, true, true, true, false, false, false] rfl this
set_option maxHeartbeats 1000000 in
theorem sp_joyOfEvenings {Γ : Gm} {σ : Mm} {P : Pb} {s n : Nat} (hS : SU σ P) (hs : s < 2147483648) (hn : n ≤ 60) (hG : 0 < pG P) (hD : 0 < pD P) (hk : Pok P) : Sp Γ 5 mX0_joyOfEvenings [rf Γ 27, .int (nI n), .int (nI s)] σ (aI (evS P s n).2.2 (fun σ' => OF σ σ' ∧ σ'.2 27 = lN (evS P s n).2.1)) := by
  refine sp_in (L := [some (rf Γ 27), some (.int (nI n)), some (.int (nI s)), none, none, none, none, none]) rfl (Nat.le_of_ble_eq_true rfl) rfl ?_
  refine go_aload_n dX0_joyOfEvenings_0 rfl rfl ?_
  refine go_iload_n dX0_joyOfEvenings_1 rfl rfl ?_
  refine go_i2l dX0_joyOfEvenings_2 ?_
  refine go_putL fwX0_179 fs_27_9 (by exact u27) dX0_joyOfEvenings_3 ?_
  refine go_aload_n dX0_joyOfEvenings_6 rfl rfl ?_
  refine go_getR flX0_27 fs_27_1 dX0_joyOfEvenings_7 ?_
  refine go_aload_n dX0_joyOfEvenings_10 rfl rfl ?_
  refine go_getR flX0_20 fs_27_6 dX0_joyOfEvenings_11 ?_
  refine go_callVv cvX0_183 os_6 (sp_saveWants (Or.inl rfl)) (by omega) rfl rfl (Nat.le_of_ble_eq_true rfl) dX0_joyOfEvenings_14 (fun σ1 q1 => ?_)
  refine go_iconst (v := nI 0) dX0_joyOfEvenings_17 rfl ?_
  refine go_istore_n (L' := [_, _, _, _, _, _, _, _]) dX0_joyOfEvenings_18 rfl (by decide) rfl rfl ?_
  refine go_iconst (v := nI 0) dX0_joyOfEvenings_19 rfl ?_
  refine go_istore (L' := [_, _, _, _, _, _, _, _]) dX0_joyOfEvenings_20 (by decide) rfl rfl ?_
  refine lp_evenings hs hn hG hD hk n 0 σ1 rfl (Nat.zero_le _) ?_
  obtain ⟨w1, w2, w3⟩ := q1
  refine ⟨?_, ?_, fun g k hg hk => ?_, fun g k hg hk => ?_, fun a q1 q2 => ?_, fun a ha => ?_⟩
  · refine hS.of ⟨fun a ha => w2 a (by omega), fun a ha => ?_⟩
    rw [w3]
  · rw [w3, stL_at, nI_l (by omega)]; rfl
  · rw [show 31 + g = 30 + 1 + g by omega, w1 g k hg hk]; rfl
  · rw [w2 (9 + 2 * g) (by omega)]; rfl
  · rw [w2 a (by omega)]; rfl
  · rw [w3]; simp [stL, ha]
