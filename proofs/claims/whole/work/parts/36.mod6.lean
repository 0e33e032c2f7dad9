/-! the model: evenings; what it holds -/
theorem lN_mask {n : Nat} (hn : n < 2 ^ 63) : lN n &&& 2147483647 = lN (n % 2147483648) := by
  apply Int64.toBitVec_inj.mp
  show BitVec.ofNat 64 n &&& BitVec.ofNat 64 2147483647 = BitVec.ofNat 64 (n % 2147483648)
  apply BitVec.eq_of_toNat_eq
  have h2 : n % 2147483648 < 2147483648 := Nat.mod_lt _ (by omega)
  rw [BitVec.toNat_and, BitVec.toNat_ofNat, BitVec.toNat_ofNat, BitVec.toNat_ofNat, Nat.mod_eq_of_lt (show n < 2 ^ 64 by omega), Nat.mod_eq_of_lt (show 2147483647 < 2 ^ 64 by omega), Nat.mod_eq_of_lt (show n % 2147483648 < 2 ^ 64 by omega)]
  exact Nat.and_two_pow_sub_one_eq_mod n 31
set_option maxHeartbeats 1000000 in
theorem sm_draw {Γ : Gm} {σ : Mm} {s b : Nat} (hs : s < 2147483648) (hb : 0 < b) (hb2 : b < 2 ^ 31) (e : σ.1 58 25 = nI s) : Sp Γ 1 mX9_draw [rf Γ 58, .int (nI b)] σ (aI (nI (drw (nxt s) b)) (fun σ' => σ' = stI σ 58 25 (nI (nxt s)))) := by
  refine sp_in (L := [some (rf Γ 58), some (.int (nI b))]) rfl (Nat.le_of_ble_eq_true rfl) rfl ?_
  have h1 : (((1103515245 : Int64) * (nI s).toInt64 + 12345) &&& 2147483647).toInt32 = nI (nxt s) := by
    rw [nI_l (by omega), show (1103515245 : Int64) = lN 1103515245 from rfl, show (12345 : Int64) = lN 12345 from rfl, lN_mul, lN_add, lN_mask (by omega), lN_i]
    rfl
  have hn := nxt_lt s
  refine go_aload_n dX9_draw_0 rfl rfl ?_
  refine go_ldc2 (v := 1103515245) dX9_draw_1 klX9_203 ?_
  refine go_aload_n dX9_draw_4 rfl rfl ?_
  refine go_getI flX9_205 fs_58_25 dX9_draw_5 ?_
  rw [e]
  refine go_i2l dX9_draw_8 ?_
  refine go_lmul dX9_draw_9 ?_
  refine go_ldc2 (v := 12345) dX9_draw_10 klX9_208 ?_
  refine go_ladd dX9_draw_13 ?_
  refine go_ldc2 (v := 2147483647) dX9_draw_14 klX9_210 ?_
  refine go_land dX9_draw_17 ?_
  refine go_l2i dX9_draw_18 ?_
  refine go_putI fwX9_205 fs_58_25 dX9_draw_19 ?_
  refine go_aload_n dX9_draw_22 rfl rfl ?_
  refine go_getI flX9_205 fs_58_25 dX9_draw_23 ?_
  rw [stI_at, h1]
  refine go_ldc (v := 65536) dX9_draw_26 kiX9_212 ?_
  refine go_idiv dX9_draw_28 (by decide) ?_
  rw [show (65536 : Int32) = nI 65536 from rfl, pk_div (by omega) (by omega) (by omega)]
  refine go_iload_n dX9_draw_29 rfl rfl ?_
  refine go_irem dX9_draw_30 (nI_ne0 (by omega) (by omega)) ?_
  rw [pk_rem (Nat.lt_of_le_of_lt (Nat.div_le_self _ _) (by omega)) (by omega) (by omega)]
  refine go_iret rfl dX9_draw_31 ?_
  exact ⟨rfl, rfl⟩
/-- one array, n long, laid on another -/
def Cpd (a b n : Nat) (σ σ' : Mm) : Prop := (∀ k, k < n → σ'.1 b k = σ.1 a k) ∧ (∀ k, n ≤ k → σ'.1 b k = σ.1 b k) ∧ (∀ c, c ≠ b → σ'.1 c = σ.1 c) ∧ σ'.2 = σ.2
set_option maxHeartbeats 1000000 in
theorem lp_copy {Γ : Gm} {σ : Mm} {ca cb cn : Nat} (hca : ash ca = some cn) (hcb : ash cb = some cn) (hcn : cn < 2 ^ 31) (hne : ca ≠ cb) : ∀ (m k : Nat) (σ' : Mm), k + m = cn → Cpd ca cb k σ σ' → Go Γ 1 mX9_copy (aV (Cpd ca cb cn σ)) 2 [some (rf Γ ca), some (rf Γ cb), some (.int (nI k))] [] σ' := by
  intro m
  induction m with
  | zero =>
    intro k σ' hk hC
    have e : k = cn := by omega
    subst e
    refine go_iload_n dX9_copy_2 rfl rfl ?_
    refine go_aload_n dX9_copy_3 rfl rfl ?_
    refine go_alen hca rfl dX9_copy_4 ?_
    refine go_icmp_ge (tgt := 20) dX9_copy_5 (by decide) (fun c5 => ?_) (fun c5 => ?_)
    · refine go_vret rfl dX9_copy_20 ?_
      exact ⟨rfl, hC⟩
    · exact absurd (Int32.le_refl _) c5
  | succ m ih =>
    intro k σ' hk hC
    refine go_iload_n dX9_copy_2 rfl rfl ?_
    refine go_aload_n dX9_copy_3 rfl rfl ?_
    refine go_alen hca rfl dX9_copy_4 ?_
    refine go_icmp_ge (tgt := 20) dX9_copy_5 (by decide) (fun c5 => ?_) (fun c5 => ?_)
    · exact absurd c5 (nI_ge (by omega) (by omega))
    · refine go_aload_n dX9_copy_8 rfl rfl ?_
      refine go_iload_n dX9_copy_9 rfl rfl ?_
      refine go_aload_n dX9_copy_10 rfl rfl ?_
      refine go_iload_n dX9_copy_11 rfl rfl ?_
      refine go_iald (k) rfl hca (by omega) hcn dX9_copy_12 ?_
      refine go_iast (k) rfl hcb (by omega) hcn dX9_copy_13 ?_
      refine go_iinc (v := nI (k + 1)) (L' := [_, _, _]) dX9_copy_14 rfl (nI_1 _) (by decide) rfl rfl ?_
      refine go_goto (tgt := 2) dX9_copy_17 (by decide) ?_
      refine ih (k + 1) _ (by omega) ⟨fun j hj => ?_, fun j hj => ?_, fun c hc => ?_, hC.2.2.2⟩
      · by_cases q : j = k
        · subst q; rw [stI_at, hC.2.2.1 ca hne]
        · rw [stI_ne (by omega)]; exact hC.1 j (by omega)
      · rw [stI_ne (by omega)]; exact hC.2.1 j (by omega)
      · exact (funext fun y => stI_ne (Or.inl hc)).trans (hC.2.2.1 c hc)
set_option maxHeartbeats 1000000 in
theorem sm_copy {Γ : Gm} {σ : Mm} (ca cb : Nat) {cn : Nat} (hca : ash ca = some cn) (hcb : ash cb = some cn) (hcn : cn < 2 ^ 31) (hne : ca ≠ cb) : Sp Γ 1 mX9_copy [rf Γ ca, rf Γ cb] σ (aV (Cpd ca cb cn σ)) := by
  refine sp_in (L := [some (rf Γ ca), some (rf Γ cb), none]) rfl (Nat.le_of_ble_eq_true rfl) rfl ?_
  refine go_iconst (v := nI 0) dX9_copy_0 rfl ?_
  refine go_istore_n (L' := [_, _, _]) dX9_copy_1 rfl (by decide) rfl rfl ?_
  exact lp_copy hca hcb hcn hne cn 0 σ (by omega) ⟨fun k h => absurd h (Nat.not_lt_zero _), fun _ _ => rfl, fun _ _ => rfl, rfl⟩
/-- the model in the midst of evenings -/
def EvM (σ σ' : Mm) (P : Pb) (s : Nat) : Prop := MP σ' P ∧ BY σ' P ∧ σ'.1 58 25 = nI s ∧ (∀ k, k < 30 → σ'.1 69 k = σ.1 65 k) ∧ (∀ k, 30 ≤ k → σ'.1 65 k = σ.1 65 k) ∧ (∀ a, a ≠ 58 → a ≠ 60 → a ≠ 61 → a ≠ 65 → a ≠ 67 → a ≠ 69 → σ'.1 a = σ.1 a) ∧ (∀ k, k ≠ 4 → k ≠ 5 → k ≠ 6 → k ≠ 18 → k ≠ 19 → k ≠ 20 → k ≠ 25 → σ'.1 58 k = σ.1 58 k) ∧ ∀ a, a ≠ 74 → σ'.2 a = σ.2 a
theorem EvM.seed {σ σ' : Mm} {P : Pb} {s s' : Nat} (h : EvM σ σ' P s) : EvM σ (stI σ' 58 25 (nI s')) P s' := by
  obtain ⟨h1, h2, h3, h4, h5, h6, h7, h8⟩ := h
  refine ⟨h1.om (OM.rf.s58 (by omega)), ⟨by rw [stI_ne (by omega)]; exact h2.1, by rw [stI_ne (by omega)]; exact h2.2.1, by rw [stI_ne (by omega)]; exact h2.2.2⟩, stI_at, fun k hk => by rw [stI_ne (by omega)]; exact h4 k hk, fun k hk => by rw [stI_ne (by omega)]; exact h5 k hk, fun a q1 q2 q3 q4 q5 q6 => (funext fun y => stI_ne (Or.inl q1)).trans (h6 a q1 q2 q3 q4 q5 q6), fun k q1 q2 q3 q4 q5 q6 q7 => (stI_ne (by omega)).trans (h7 k q1 q2 q3 q4 q5 q6 q7), h8⟩
theorem EvM.o67 {σ σ' σ2 : Mm} {P : Pb} {s : Nat} (h : EvM σ σ' P s) (ho : O67 σ' σ2) : EvM σ σ2 P s := by
  obtain ⟨h1, h2, h3, h4, h5, h6, h7, h8⟩ := h
  exact ⟨h1.om ho.om, h2.o67 ho, by rw [ho.1 58 (by omega)]; exact h3, by rw [ho.1 69 (by omega)]; exact h4, by rw [ho.1 65 (by omega)]; exact h5, fun a q1 q2 q3 q4 q5 q6 => (ho.1 a q5).trans (h6 a q1 q2 q3 q4 q5 q6), by rw [ho.1 58 (by omega)]; exact h7, by rw [ho.2]; exact h8⟩
theorem EvM.want {σ σ' : Mm} {P : Pb} {s g d : Nat} {v : Int32} (h : EvM σ σ' P s) (hg : g < pG P) (hd : d < pD P) : EvM σ (stI σ' 65 (6 * g + d) v) (setWa P g d v) s := by
  obtain ⟨⟨⟨a1, a2⟩, ⟨b1, b2⟩, c, dd⟩, h2, h3, h4, h5, h6, h7, h8⟩ := h
  have a2' : pD P ≤ 6 := a2
  have b2' : pG P ≤ 5 := b2
  refine ⟨⟨⟨by rw [stI_ne (by omega)]; exact a1, a2⟩, ⟨by rw [stI_ne (by omega)]; exact b1, b2⟩, fun k hk => ?_, fun a ha => ⟨?_, ?_, fun b hb => ?_⟩⟩, ⟨by rw [stI_ne (by omega)]; exact h2.1, by rw [stI_ne (by omega)]; exact h2.2.1, by rw [stI_ne (by omega)]; exact h2.2.2⟩, by rw [stI_ne (by omega)]; exact h3, fun k hk => by rw [stI_ne (by omega)]; exact h4 k hk, fun k hk => ?_, fun a q1 q2 q3 q4 q5 q6 => (funext fun y => stI_ne (Or.inl q4)).trans (h6 a q1 q2 q3 q4 q5 q6), fun k q1 q2 q3 q4 q5 q6 q7 => (stI_ne (by omega)).trans (h7 k q1 q2 q3 q4 q5 q6 q7), h8⟩
  · rw [stI_ne (by omega), stI_ne (by omega)]; exact c k hk
  · rw [stI_ne (by omega)]; exact (dd a ha).1
  · rw [stI_ne (by omega)]; exact (dd a ha).2.1
  · have hb' : b < pD P := hb
    show (stI σ' 65 (6 * g + d) v).1 65 (6 * a + b) = if a = g ∧ b = d then v else pWa P a b
    by_cases q : a = g ∧ b = d
    · rw [if_pos q, q.1, q.2, stI_at]
    · rw [if_neg q, stI_ne (by omega)]; exact (dd a ha).2.2 b hb
  · rw [stI_ne (by omega)]; exact h5 k hk
set_option maxHeartbeats 2000000 in
theorem lp_evenM {Γ : Gm} {σ : Mm} {P : Pb} {s n : Nat} (hs : s < 2147483648) (hn : n ≤ 60) (hG : 0 < pG P) (hD : 0 < pD P) {x2 w : Int32} : ∀ (m k : Nat) (σ' : Mm), k + m = n → EvM σ σ' (evS P s k).1 (evS P s k).2.1 → Go Γ 5 mX9_evenings (aI (if w = 0 then (evS P s n).2.2 else nI (evS P s n).2.1) (OM σ)) 65 [some (rf Γ 58), some (.int (nI n)), some (.int x2), some (.int w), some (.int (evS P s k).2.2), some (.int (nI k)), none, none, none] [] σ' := by
  intro m
  induction m with
  | zero =>
    intro k σ' hk hE
    have e : k = n := by omega
    subst e
    have fin : ∀ σ2, Cpd 69 65 30 σ' σ2 → OM σ σ2 ∧ σ2.1 58 25 = nI (evS P s k).2.1 := by
      intro σ2 hC
      obtain ⟨-, -, h3, h4, h5, h6, h7, h8⟩ := hE
      obtain ⟨w1, w2, w3, w4⟩ := hC
      refine ⟨⟨fun a q1 q2 q3 q4 q5 => ?_, fun j q1 q2 q3 q4 q5 q6 q7 => by rw [w3 58 (by omega)]; exact h7 j q1 q2 q3 q4 q5 q6 q7, fun a q => by rw [w4]; exact h8 a q⟩, by rw [w3 58 (by omega)]; exact h3⟩
      by_cases q : a = 65
      · subst q
        funext y
        by_cases hy : y < 30
        · rw [w1 y hy, h4 y hy]
        · rw [w2 y (by omega), h5 y (by omega)]
      · rw [w3 a q]; exact h6 a q1 q2 q3 q q4 q5
    refine go_iload dX9_evenings_65 rfl ?_
    refine go_iload_n dX9_evenings_67 rfl rfl ?_
    refine go_icmp_ge (tgt := 145) dX9_evenings_68 (by decide) (fun c68 => ?_) (fun c68 => ?_)
    · refine go_aload_n dX9_evenings_145 rfl rfl ?_
      refine go_getR flX9_40 fs_58_26 dX9_evenings_146 ?_
      refine go_aload_n dX9_evenings_149 rfl rfl ?_
      refine go_getR flX9_28 fs_58_16 dX9_evenings_150 ?_
      refine go_callSv csX9_215 (sm_copy 69 65 as_69 as_65 (by omega) (by omega)) (by omega) rfl rfl (Nat.le_of_ble_eq_true rfl) dX9_evenings_153 (fun σ2 q2 => ?_)
      refine go_iload_n dX9_evenings_156 rfl rfl ?_
      refine go_if_ne (tgt := 165) dX9_evenings_157 (by decide) (fun c157 => ?_) (fun c157 => ?_)
      · refine go_aload_n dX9_evenings_165 rfl rfl ?_
        refine go_getI flX9_205 fs_58_25 dX9_evenings_166 ?_
        rw [(fin σ2 q2).2]
        refine go_iret rfl dX9_evenings_169 ?_
        exact ⟨by rw [if_neg c157], (fin σ2 q2).1⟩
      · refine go_iload dX9_evenings_160 rfl ?_
        refine go_goto (tgt := 169) dX9_evenings_162 (by decide) ?_
        refine go_iret rfl dX9_evenings_169 ?_
        exact ⟨by rw [if_pos c157], (fin σ2 q2).1⟩
    · exact absurd (Int32.le_refl _) c68
  | succ m ih =>
    intro k σ' hk hE
    obtain ⟨z1, z2, z3, -⟩ := evS_same P s k
    have hs0 := evS_lt P hs k
    have hG5 : pG P ≤ 5 := by have := hE.1.2.1.2; rw [z2] at this; exact this
    have hD6 : pD P ≤ 6 := by have := hE.1.1.2; rw [z1] at this; exact this
    have hsz : σ'.1 58 14 = nI (pG P) := by rw [hE.1.2.1.1, z2]
    have hds : σ'.1 58 7 = nI (pD P) := by rw [hE.1.1.1, z1]
    have g1 : drw (nxt (nxt (nxt (evS P s k).2.1))) (pG P) < 5 := by have := drw_lt (s := nxt (nxt (nxt (evS P s k).2.1))) hG; omega
    have d1 : drw (nxt (nxt (evS P s k).2.1)) (pD P) < 6 := by have := drw_lt (s := nxt (nxt (evS P s k).2.1)) hD; omega
    have hE4 : EvM σ (stI (stI (stI (stI (stI σ' 58 25 (nI (nxt (evS P s k).2.1))) 58 25 (nI (nxt (nxt (evS P s k).2.1)))) 58 25 (nI (nxt (nxt (nxt (evS P s k).2.1))))) 58 25 (nI (nxt (nxt (nxt (nxt (evS P s k).2.1)))))) 65 (6 * drw (nxt (nxt (nxt (evS P s k).2.1))) (pG P) + drw (nxt (nxt (evS P s k).2.1)) (pD P)) (nI (drw (nxt (nxt (nxt (nxt (evS P s k).2.1)))) 10))) (evS P s (k + 1)).1 (evS P s (k + 1)).2.1 :=
      ((((hE.seed).seed).seed).seed).want (by rw [z2]; exact drw_lt hG) (by rw [z1]; exact drw_lt hD)
    have hf' : drw (nxt (evS P s k).2.1) (pG P) < pG (evS P s (k + 1)).1 := by rw [(evS_same P s (k + 1)).2.1]; exact drw_lt hG
    refine go_iload dX9_evenings_65 rfl ?_
    refine go_iload_n dX9_evenings_67 rfl rfl ?_
    refine go_icmp_ge (tgt := 145) dX9_evenings_68 (by decide) (fun c68 => ?_) (fun c68 => ?_)
    · exact absurd c68 (nI_ge (by omega) (by omega))
    · refine go_aload_n dX9_evenings_71 rfl rfl ?_
      refine go_aload_n dX9_evenings_72 rfl rfl ?_
      refine go_getI flX9_96 fs_58_14 dX9_evenings_73 ?_
      rw [hsz]
      refine go_callVi cvX9_219 os_58 (sm_draw hs0 hG (by omega) hE.2.2.1) (by omega) rfl rfl (Nat.le_of_ble_eq_true rfl) dX9_evenings_76 (fun σ1 q1 => ?_)
      subst q1
      refine go_istore (L' := [_, _, _, _, _, _, _, _, _]) dX9_evenings_79 (by decide) rfl rfl ?_
      refine go_aload_n dX9_evenings_81 rfl rfl ?_
      refine go_aload_n dX9_evenings_82 rfl rfl ?_
      refine go_getI flX9_90 fs_58_7 dX9_evenings_83 ?_
      rw [stI_ne (by omega), hds]
      refine go_callVi cvX9_219 os_58 (sm_draw (nxt_lt _) hD (by omega) stI_at) (by omega) rfl rfl (Nat.le_of_ble_eq_true rfl) dX9_evenings_86 (fun σ1 q1 => ?_)
      subst q1
      refine go_istore (L' := [_, _, _, _, _, _, _, _, _]) dX9_evenings_89 (by decide) rfl rfl ?_
      refine go_aload_n dX9_evenings_91 rfl rfl ?_
      refine go_aload_n dX9_evenings_92 rfl rfl ?_
      refine go_getI flX9_96 fs_58_14 dX9_evenings_93 ?_
      rw [stI_ne (by omega), stI_ne (by omega), hsz]
      refine go_callVi cvX9_219 os_58 (sm_draw (nxt_lt _) hG (by omega) stI_at) (by omega) rfl rfl (Nat.le_of_ble_eq_true rfl) dX9_evenings_96 (fun σ1 q1 => ?_)
      subst q1
      refine go_istore (L' := [_, _, _, _, _, _, _, _, _]) dX9_evenings_99 (by decide) rfl rfl ?_
      refine go_aload_n dX9_evenings_101 rfl rfl ?_
      refine go_getR flX9_28 fs_58_16 dX9_evenings_102 ?_
      refine go_bipush (v := nI 6) dX9_evenings_105 rfl ?_
      refine go_iload dX9_evenings_107 rfl ?_
      refine go_imul dX9_evenings_109 ?_
      refine go_iload dX9_evenings_110 rfl ?_
      refine go_iadd dX9_evenings_112 ?_
      refine go_aload_n dX9_evenings_113 rfl rfl ?_
      refine go_bipush (v := nI 10) dX9_evenings_114 rfl ?_
      refine go_callVi cvX9_219 os_58 (sm_draw (nxt_lt _) (by omega) (by omega) stI_at) (by omega) rfl rfl (Nat.le_of_ble_eq_true rfl) dX9_evenings_116 (fun σ1 q1 => ?_)
      subst q1
      refine go_iast (6 * drw (nxt (nxt (nxt (evS P s k).2.1))) (pG P) + drw (nxt (nxt (evS P s k).2.1)) (pD P)) (by simp only [pk_mul, nI_add]) as_65 (by omega) (by decide) dX9_evenings_119 ?_
      refine go_aload_n dX9_evenings_120 rfl rfl ?_
      refine go_iload dX9_evenings_121 rfl ?_
      refine go_callVv cvX9_165 os_58 (sm_lay hE4.1 hE4.2.1 hf') (by omega) rfl rfl (Nat.le_of_ble_eq_true rfl) dX9_evenings_123 (fun σ2 q2 => ?_)
      refine go_iload dX9_evenings_126 rfl ?_
      refine go_aload_n dX9_evenings_128 rfl rfl ?_
      refine go_aload_n dX9_evenings_129 rfl rfl ?_
      refine go_getR flX9_34 fs_58_21 dX9_evenings_130 ?_
      refine go_callVp cvX9_169 os_58 (sm_joyAll isR67 (hE4.1.om q2.2.om) q2.1 (fun g hg => row_neg ((lay_ok hf').1 g (by have := hE4.1.2.1.2; omega)))) (by omega) rfl rfl (Nat.le_of_ble_eq_true rfl) dX9_evenings_133 ?_
      refine go_iadd dX9_evenings_136 ?_
      refine go_istore (L' := [_, _, _, _, _, _, _, _, _]) dX9_evenings_137 (by decide) rfl rfl ?_
      refine go_iinc (v := nI (k + 1)) (L' := [_, _, _, _, _, _, _, _, _]) dX9_evenings_139 rfl (nI_1 _) (by decide) rfl rfl ?_
      refine go_goto (tgt := 65) dX9_evenings_142 (by decide) ?_
      have := ih (k + 1) σ2 (by omega) (hE4.o67 q2.2)
      exact go_sub [true, true, true, true, true, true, false, false, false] rfl this
/-- the model holds X -/
def RMk (σ : Mm) (c : Nat) (K : Kt) : Prop := σ.1 58 27 = (if K.1 = 0 then -1 else nI K.1) ∧ (K.1 = c → 0 < c → σ.1 58 28 = nI (pG K.2.1) ∧ σ.1 58 29 = pUr K.2.1 ∧ σ.1 58 30 = pMu K.2.1 ∧ σ.1 58 31 = nI K.2.2.2.1 ∧ (∀ g, g < pG K.2.1 → σ.1 71 (2 * g) = pKi K.2.1 g ∧ σ.1 71 (2 * g + 1) = pPu K.2.1 g ∧ σ.1 72 g = K.2.2.1 g ∧ ∀ d, d < pD K.2.1 → σ.1 70 (6 * g + d) = pWa K.2.1 g d) ∧ ∀ e, e < K.2.2.2.1 → σ.1 73 (3 * e) = nI (K.2.2.2.2.1 e) ∧ σ.1 73 (3 * e + 1) = nI (K.2.2.2.2.2.1 e) ∧ σ.1 73 (3 * e + 2) = K.2.2.2.2.2.2 e)
theorem RMk.eq {σ σ' : Mm} {c : Nat} {K : Kt} (h : RMk σ c K) (e : ∀ k, 27 ≤ k → k ≤ 31 → σ'.1 58 k = σ.1 58 k) (f : ∀ a, 70 ≤ a → a ≤ 73 → σ'.1 a = σ.1 a) : RMk σ' c K := by
  unfold RMk
  rw [e 27 (by omega) (by omega), e 28 (by omega) (by omega), e 29 (by omega) (by omega), e 30 (by omega) (by omega), e 31 (by omega) (by omega), f 70 (by omega) (by omega), f 71 (by omega) (by omega), f 72 (by omega) (by omega), f 73 (by omega) (by omega)]
  exact h
def RM (σ : Mm) (X : Xs) : Prop := (σ.1 58 1 = nI (xPn X) ∧ ∀ k, k < xPn X → σ.1 59 k = xPg X k) ∧ MS σ (xP X) ∧ Rw σ 66 (xP X) (xH X) ∧ ML σ (pG (xP X)) (xE X) ∧ (σ.1 58 9 = nI (xC X) ∧ σ.1 58 22 = nI (xA X)) ∧ RMk σ (xC X) (xK X)
def FrM (σ σ' : Mm) : Prop := (∀ a, a < 58 → σ'.1 a = σ.1 a) ∧ ∀ a, a < 58 → σ'.2 a = σ.2 a
theorem FrM.rf {σ : Mm} : FrM σ σ := ⟨fun _ _ => rfl, fun _ _ => rfl⟩
theorem FrM.trans {σ σ1 σ2 : Mm} (h : FrM σ σ1) (h2 : FrM σ1 σ2) : FrM σ σ2 := ⟨fun a q => (h2.1 a q).trans (h.1 a q), fun a q => (h2.2 a q).trans (h.2 a q)⟩
theorem FrM.st {σ σ' : Mm} {c k : Nat} {v : Int32} (h : FrM σ σ') (hc : 58 ≤ c) : FrM σ (stI σ' c k v) := ⟨fun a q => (funext fun y => stI_ne (Or.inl (by omega))).trans (h.1 a q), h.2⟩
theorem OM.frm {σ σ' : Mm} (h : OM σ σ') : FrM σ σ' := ⟨fun a q => h.1 a (by omega) (by omega) (by omega) (by omega) (by omega), fun a q => h.2.2 a (by omega)⟩
theorem RM.om {σ σ' : Mm} {X : Xs} (h : RM σ X) (ho : OM σ σ') : RM σ' X := by
  obtain ⟨⟨a1, a2⟩, b, c, d, ⟨e1, e2⟩, f⟩ := h
  have z := fun k q1 q2 q3 q4 q5 q6 q7 => ho.2.1 k q1 q2 q3 q4 q5 q6 q7
  refine ⟨⟨by rw [z 1 (by omega) (by omega) (by omega) (by omega) (by omega) (by omega) (by omega)]; exact a1, fun k hk => by rw [ho.1 59 (by omega) (by omega) (by omega) (by omega) (by omega)]; exact a2 k hk⟩, b.om ho, fun g hg => by rw [ho.1 66 (by omega) (by omega) (by omega) (by omega) (by omega)]; exact c g hg, d.om ho, ⟨by rw [z 9 (by omega) (by omega) (by omega) (by omega) (by omega) (by omega) (by omega)]; exact e1, by rw [z 22 (by omega) (by omega) (by omega) (by omega) (by omega) (by omega) (by omega)]; exact e2⟩, f.eq (fun k h1 h2 => z k (by omega) (by omega) (by omega) (by omega) (by omega) (by omega) (by omega)) (fun a h1 h2 => ho.1 a (by omega) (by omega) (by omega) (by omega) (by omega))⟩
theorem RM.q {σ σ' : Mm} {X : Xs} (h : RM σ X) (ho : OM σ σ') : RM σ' X ∧ FrM σ σ' := ⟨h.om ho, ho.frm⟩
