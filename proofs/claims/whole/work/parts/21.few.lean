/-! fewest dishes -/
def pop (n : Nat) : Nat := n % 2 + n / 2 % 2 + n / 4 % 2 + n / 8 % 2 + n / 16 % 2 + n / 32 % 2
def us (x : Int32) (k : Int32) : Int32 := (x.toUInt32 >>> (k.toUInt32 &&& Int32.toUInt32 31)).toInt32
def bc1 (x : Int32) : Int32 := x - (us x (nI 1) &&& 1431655765)
def bc2 (x : Int32) : Int32 := (x &&& 858993459) + (us x (nI 2) &&& 858993459)
def bc3 (x : Int32) : Int32 := (x + us x (nI 4)) &&& 252645135
def bc4 (x : Int32) : Int32 := x + us x (nI 8)
def bc5 (x : Int32) : Int32 := x + us x (nI 16)
theorem bc_ok : ∀ n, n < 64 → bc5 (bc4 (bc3 (bc2 (bc1 (nI n))))) &&& nI 63 = nI (pop n) := by decide +kernel
set_option maxHeartbeats 1000000 in
theorem sp_bitCount {Γ : Gm} {σ : Mm} {k : Nat} (hk : k < 64) : Sp Γ 1 mJ6_bitCount_0f7a4 [.int (nI k)] σ (aP (nI (pop k)) σ) := by
  refine sp_in (L := [some (.int (nI k))]) rfl (Nat.le_of_ble_eq_true rfl) rfl ?_
  refine go_iload_n dJ6_bitCount_0f7a4_0 rfl rfl ?_
  refine go_iload_n dJ6_bitCount_0f7a4_1 rfl rfl ?_
  refine go_iconst (v := nI 1) dJ6_bitCount_0f7a4_2 rfl ?_
  refine go_iushr dJ6_bitCount_0f7a4_3 rfl ?_
  refine go_ldcw (v := 1431655765) dJ6_bitCount_0f7a4_4 kiJ6_265 ?_
  refine go_iand dJ6_bitCount_0f7a4_7 ?_
  refine go_isub dJ6_bitCount_0f7a4_8 ?_
  refine go_istore_n (L' := [_]) dJ6_bitCount_0f7a4_9 rfl (by decide) rfl rfl ?_
  refine go_iload_n dJ6_bitCount_0f7a4_10 rfl rfl ?_
  refine go_ldcw (v := 858993459) dJ6_bitCount_0f7a4_11 kiJ6_266 ?_
  refine go_iand dJ6_bitCount_0f7a4_14 ?_
  refine go_iload_n dJ6_bitCount_0f7a4_15 rfl rfl ?_
  refine go_iconst (v := nI 2) dJ6_bitCount_0f7a4_16 rfl ?_
  refine go_iushr dJ6_bitCount_0f7a4_17 rfl ?_
  refine go_ldcw (v := 858993459) dJ6_bitCount_0f7a4_18 kiJ6_266 ?_
  refine go_iand dJ6_bitCount_0f7a4_21 ?_
  refine go_iadd dJ6_bitCount_0f7a4_22 ?_
  refine go_istore_n (L' := [_]) dJ6_bitCount_0f7a4_23 rfl (by decide) rfl rfl ?_
  refine go_iload_n dJ6_bitCount_0f7a4_24 rfl rfl ?_
  refine go_iload_n dJ6_bitCount_0f7a4_25 rfl rfl ?_
  refine go_iconst (v := nI 4) dJ6_bitCount_0f7a4_26 rfl ?_
  refine go_iushr dJ6_bitCount_0f7a4_27 rfl ?_
  refine go_iadd dJ6_bitCount_0f7a4_28 ?_
  refine go_ldcw (v := 252645135) dJ6_bitCount_0f7a4_29 kiJ6_267 ?_
  refine go_iand dJ6_bitCount_0f7a4_32 ?_
  refine go_istore_n (L' := [_]) dJ6_bitCount_0f7a4_33 rfl (by decide) rfl rfl ?_
  refine go_iload_n dJ6_bitCount_0f7a4_34 rfl rfl ?_
  refine go_iload_n dJ6_bitCount_0f7a4_35 rfl rfl ?_
  refine go_bipush (v := nI 8) dJ6_bitCount_0f7a4_36 rfl ?_
  refine go_iushr dJ6_bitCount_0f7a4_38 rfl ?_
  refine go_iadd dJ6_bitCount_0f7a4_39 ?_
  refine go_istore_n (L' := [_]) dJ6_bitCount_0f7a4_40 rfl (by decide) rfl rfl ?_
  refine go_iload_n dJ6_bitCount_0f7a4_41 rfl rfl ?_
  refine go_iload_n dJ6_bitCount_0f7a4_42 rfl rfl ?_
  refine go_bipush (v := nI 16) dJ6_bitCount_0f7a4_43 rfl ?_
  refine go_iushr dJ6_bitCount_0f7a4_45 rfl ?_
  refine go_iadd dJ6_bitCount_0f7a4_46 ?_
  refine go_istore_n (L' := [_]) dJ6_bitCount_0f7a4_47 rfl (by decide) rfl rfl ?_
  refine go_iload_n dJ6_bitCount_0f7a4_48 rfl rfl ?_
  refine go_bipush (v := nI 63) dJ6_bitCount_0f7a4_49 rfl ?_
  refine go_iand dJ6_bitCount_0f7a4_51 ?_
  refine go_iret rfl dJ6_bitCount_0f7a4_52 ?_
  exact ⟨congrArg (fun z => some (Value.int z)) (bc_ok k hk), rfl⟩
theorem bit_ok : ∀ n, n < 64 → ∀ k, k < 6 → (nI n >>> (nI k &&& 31)) &&& nI 1 = nI (n / 2 ^ k % 2) := by decide +kernel
theorem shl_ok : ∀ k, k < 7 → nI 1 <<< (nI k &&& 31) = nI (2 ^ k) := by decide +kernel
def anyB (f : Nat → Bool) : Nat → Bool
  | 0 => false
  | n + 1 => anyB f n || f n
def plD (P : Pb) (n g d : Nat) : Bool := decide (n / 2 ^ d % 2 = 1) && decide (nI 5 ≤ pWa P g d)
def plG (P : Pb) (n g : Nat) : Bool := anyB (plD P n g) (pD P)
def plA (P : Pb) (n : Nat) : Bool := allB (plG P n) (pG P)
theorem pw_le {D : Nat} (h : D ≤ 6) : 2 ^ D ≤ 64 := by
  have := Nat.pow_le_pow_right (n := 2) (by omega) h
  omega
set_option maxHeartbeats 1000000 in
theorem lp_please2 {Γ : Gm} {σ : Mm} {P : Pb} {n g : Nat} (hP : PI σ P) (hn : n < 64) (hg : g < pG P) (ha : allB (plG P n) g = true)
    (next : allB (plG P n) (g + 1) = true → Go Γ 1 mX0_pleasesAll (aP (bI (plA P n)) σ) 2 [some (rf Γ 27), some (.int (nI n)), some (.int (nI (g + 1))), none, none] [] σ) :
    ∀ (m d : Nat), pD P - d = m → d ≤ pD P → Go Γ 1 mX0_pleasesAll (aP (bI (plA P n)) σ) 18 [some (rf Γ 27), some (.int (nI n)), some (.int (nI g)), some (.int (bI (anyB (plD P n g) d))), some (.int (nI d))] [] σ := by
  have hD := hP.1.2
  have hG := hP.2.1.2
  have hg5 : g < 5 := by omega
  intro m
  induction m with
  | zero =>
    intro d hm hd
    have e : d = pD P := by omega
    subst e
    refine go_iload dX0_pleasesAll_18 rfl ?_
    refine go_aload_n dX0_pleasesAll_20 rfl rfl ?_
    refine go_getR flX0_23 fs_27_0 dX0_pleasesAll_21 ?_
    refine go_getI flX0_117 fs_3_2 dX0_pleasesAll_24 ?_
    rw [hP.1.1]
    refine go_icmp_ge (tgt := 67) dX0_pleasesAll_27 (by decide) (fun c27 => ?_) (fun c27 => ?_)
    · refine go_iload_n dX0_pleasesAll_67 rfl rfl ?_
      refine go_if_ne (tgt := 73) dX0_pleasesAll_68 (by decide) (fun c68 => ?_) (fun c68 => ?_)
      · refine go_iinc (v := nI (g + 1)) (L' := [_, _, _, _, _]) dX0_pleasesAll_73 rfl (nI_1 _) (by decide) rfl rfl ?_
        refine go_goto (tgt := 2) dX0_pleasesAll_76 (by decide) ?_
        exact go_sub [true, true, true, false, false] rfl (next (by unfold allB; rw [ha]; exact bI_ne0.mp c68))
      · refine go_iconst (v := nI 0) dX0_pleasesAll_71 rfl ?_
        refine go_zret rfl dX0_pleasesAll_72 (by first | exact Or.inl rfl | exact Or.inr rfl | exact bI_01 _) ?_
        exact ⟨by rw [show plA P n = false from allB_false hg (bI_eq0.mp c68)]; rfl, rfl⟩
    · exact absurd (Int32.le_refl _) c27
  | succ m ih =>
    intro d hm hd
    have hd1 : d < pD P := by omega
    have hb := bit_ok n hn d (by omega)
    have hwv := (hP.2.2.2 g hg).2.2 d hd1
    have stp := ih (d + 1) (by omega) (by omega)
    refine go_iload dX0_pleasesAll_18 rfl ?_
    refine go_aload_n dX0_pleasesAll_20 rfl rfl ?_
    refine go_getR flX0_23 fs_27_0 dX0_pleasesAll_21 ?_
    refine go_getI flX0_117 fs_3_2 dX0_pleasesAll_24 ?_
    rw [hP.1.1]
    refine go_icmp_ge (tgt := 67) dX0_pleasesAll_27 (by decide) (fun c27 => ?_) (fun c27 => ?_)
    · exact absurd c27 (nI_ge (by omega) (by omega))
    · refine go_iload_n dX0_pleasesAll_30 rfl rfl ?_
      refine go_iload dX0_pleasesAll_31 rfl ?_
      refine go_ishr dX0_pleasesAll_33 ?_
      refine go_iconst (v := nI 1) dX0_pleasesAll_34 rfl ?_
      refine go_iand dX0_pleasesAll_35 ?_
      refine go_iconst (v := nI 1) dX0_pleasesAll_36 rfl ?_
      refine go_icmp_ne (tgt := 61) dX0_pleasesAll_37 (by decide) (fun c37 => ?_) (fun c37 => ?_)
      · refine go_iinc (v := nI (d + 1)) (L' := [_, _, _, _, _]) dX0_pleasesAll_61 rfl (nI_1 _) (by decide) rfl rfl ?_
        refine go_goto (tgt := 18) dX0_pleasesAll_64 (by decide) ?_
        rw [hb, nI_eq (by omega) (by omega)] at c37
        rw [show anyB (plD P n g) (d + 1) = anyB (plD P n g) d by conv => lhs; unfold anyB; rw [show plD P n g d = false by unfold plD; simp [c37]]; simp] at stp
        exact stp
      · refine go_aload_n dX0_pleasesAll_40 rfl rfl ?_
        refine go_getR flX0_27 fs_27_1 dX0_pleasesAll_41 ?_
        refine go_getR flX0_134 fs_6_0 dX0_pleasesAll_44 ?_
        refine go_iload_n dX0_pleasesAll_47 rfl rfl ?_
        refine go_aald (g) rfl (rG hg5) rt_7 dX0_pleasesAll_48 ?_
        refine go_getR flX0_154 (fG_0 hg5) dX0_pleasesAll_49 ?_
        refine go_iload dX0_pleasesAll_52 rfl ?_
        refine go_iald (d) rfl (aW hg5) (by omega) (by decide) dX0_pleasesAll_54 ?_
        rw [hwv]
        refine go_iconst (v := nI 5) dX0_pleasesAll_55 rfl ?_
        refine go_icmp_lt (tgt := 61) dX0_pleasesAll_56 (by decide) (fun c56 => ?_) (fun c56 => ?_)
        · refine go_iinc (v := nI (d + 1)) (L' := [_, _, _, _, _]) dX0_pleasesAll_61 rfl (nI_1 _) (by decide) rfl rfl ?_
          refine go_goto (tgt := 18) dX0_pleasesAll_64 (by decide) ?_
          rw [show anyB (plD P n g) (d + 1) = anyB (plD P n g) d by conv => lhs; unfold anyB; rw [show plD P n g d = false by unfold plD; simp [Int32.not_le.mpr c56]]; simp] at stp
          exact stp
        · refine go_iconst (v := nI 1) dX0_pleasesAll_59 rfl ?_
          refine go_istore_n (L' := [_, _, _, _, _]) dX0_pleasesAll_60 rfl (by decide) rfl rfl ?_
          refine go_iinc (v := nI (d + 1)) (L' := [_, _, _, _, _]) dX0_pleasesAll_61 rfl (nI_1 _) (by decide) rfl rfl ?_
          refine go_goto (tgt := 18) dX0_pleasesAll_64 (by decide) ?_
          rw [hb, nI_eq (by omega) (by omega)] at c37
          rw [show anyB (plD P n g) (d + 1) = true by conv => lhs; unfold anyB; rw [show plD P n g d = true by unfold plD; simp [c37, Int32.not_lt.mp c56]]; simp] at stp
          exact stp
set_option maxHeartbeats 1000000 in
theorem lp_please1 {Γ : Gm} {σ : Mm} {P : Pb} {n : Nat} (hP : PI σ P) (hn : n < 64) : ∀ (m g : Nat), pG P - g = m → g ≤ pG P → allB (plG P n) g = true → Go Γ 1 mX0_pleasesAll (aP (bI (plA P n)) σ) 2 [some (rf Γ 27), some (.int (nI n)), some (.int (nI g)), none, none] [] σ := by
  have hG := hP.2.1.2
  intro m
  induction m with
  | zero =>
    intro g hm hg ha
    have e : g = pG P := by omega
    subst e
    refine go_iload_n dX0_pleasesAll_2 rfl rfl ?_
    refine go_aload_n dX0_pleasesAll_3 rfl rfl ?_
    refine go_getR flX0_27 fs_27_1 dX0_pleasesAll_4 ?_
    refine go_getI flX0_63 fs_6_1 dX0_pleasesAll_7 ?_
    rw [hP.2.1.1]
    refine go_icmp_ge (tgt := 79) dX0_pleasesAll_10 (by decide) (fun c10 => ?_) (fun c10 => ?_)
    · refine go_iconst (v := nI 1) dX0_pleasesAll_79 rfl ?_
      refine go_zret rfl dX0_pleasesAll_80 (by first | exact Or.inl rfl | exact Or.inr rfl | exact bI_01 _) ?_
      exact ⟨by rw [show plA P n = true from ha]; rfl, rfl⟩
    · exact absurd (Int32.le_refl _) c10
  | succ m ih =>
    intro g hm hg ha
    refine go_iload_n dX0_pleasesAll_2 rfl rfl ?_
    refine go_aload_n dX0_pleasesAll_3 rfl rfl ?_
    refine go_getR flX0_27 fs_27_1 dX0_pleasesAll_4 ?_
    refine go_getI flX0_63 fs_6_1 dX0_pleasesAll_7 ?_
    rw [hP.2.1.1]
    refine go_icmp_ge (tgt := 79) dX0_pleasesAll_10 (by decide) (fun c10 => ?_) (fun c10 => ?_)
    · exact absurd c10 (nI_ge (by omega) (by omega))
    · refine go_iconst (v := nI 0) dX0_pleasesAll_13 rfl ?_
      refine go_istore_n (L' := [_, _, _, _, _]) dX0_pleasesAll_14 rfl (by decide) rfl rfl ?_
      refine go_iconst (v := nI 0) dX0_pleasesAll_15 rfl ?_
      refine go_istore (L' := [_, _, _, _, _]) dX0_pleasesAll_16 (by decide) rfl rfl ?_
      exact lp_please2 hP hn (by omega) ha (fun q => ih (g + 1) (by omega) (by omega) q) (pD P) 0 rfl (Nat.zero_le _)
set_option maxHeartbeats 1000000 in
theorem sp_pleasesAll {Γ : Gm} {σ : Mm} {P : Pb} {n : Nat} (hP : PI σ P) (hn : n < 64) : Sp Γ 1 mX0_pleasesAll [rf Γ 27, .int (nI n)] σ (aP (bI (plA P n)) σ) := by
  refine sp_in (L := [some (rf Γ 27), some (.int (nI n)), none, none, none]) rfl (Nat.le_of_ble_eq_true rfl) rfl ?_
  refine go_iconst (v := nI 0) dX0_pleasesAll_0 rfl ?_
  refine go_istore_n (L' := [_, _, _, _, _]) dX0_pleasesAll_1 rfl (by decide) rfl rfl ?_
  exact lp_please1 hP hn (pG P) 0 rfl (Nat.zero_le _) rfl
def oV : Option Nat → Int32
  | none => -1
  | some b => nI b
def fwB (k : Nat) : Option Nat → Bool
  | none => true
  | some b => decide (pop k < pop b)
def fwN (P : Pb) : Nat → Option Nat
  | 0 => none
  | k + 1 => if (plA P k && fwB k (fwN P k)) = true then some k else fwN P k
theorem fwN_lt {P : Pb} : ∀ (k b : Nat), fwN P k = some b → b < k
  | 0, b, h => by cases h
  | k + 1, b, h => by
    unfold fwN at h
    split at h
    · cases h; omega
    · have := fwN_lt k b h; omega
def fewM (P : Pb) : Option Nat := fwN P (2 ^ pD P)
theorem pop_lt (n : Nat) : pop n < 7 := by unfold pop; omega
set_option maxHeartbeats 1000000 in
theorem lp_fewest {Γ : Gm} {σ : Mm} {P : Pb} (hP : PI σ P) : ∀ (m k : Nat), 2 ^ pD P - k = m → k ≤ 2 ^ pD P → Go Γ 2 mX0_fewestBits (aP (oV (fewM P)) σ) 4 [some (rf Γ 27), some (.int (oV (fwN P k))), some (.int (nI k)), none] [] σ := by
  have hD := hP.1.2
  have h64 := pw_le hD
  intro m
  induction m with
  | zero =>
    intro k hm hk
    have e : k = 2 ^ pD P := by omega
    subst e
    refine go_iload_n dX0_fewestBits_4 rfl rfl ?_
    refine go_iconst (v := nI 1) dX0_fewestBits_5 rfl ?_
    refine go_aload_n dX0_fewestBits_6 rfl rfl ?_
    refine go_getR flX0_23 fs_27_0 dX0_fewestBits_7 ?_
    refine go_getI flX0_117 fs_3_2 dX0_fewestBits_10 ?_
    rw [hP.1.1]
    refine go_ishl dX0_fewestBits_13 ?_
    rw [shl_ok (pD P) (by omega)]
    refine go_icmp_ge (tgt := 59) dX0_fewestBits_14 (by decide) (fun c14 => ?_) (fun c14 => ?_)
    · refine go_iload_n dX0_fewestBits_59 rfl rfl ?_
      refine go_iret rfl dX0_fewestBits_60 ?_
      exact ⟨rfl, rfl⟩
    · exact absurd (Int32.le_refl _) c14
  | succ m ih =>
    intro k hm hk
    have hk1 : k < 64 := by omega
    have stp := ih (k + 1) (by omega) (by omega)
    have yes : (plA P k && fwB k (fwN P k)) = true → Go Γ 2 mX0_fewestBits (aP (oV (fewM P)) σ) 4 [some (rf Γ 27), some (.int (nI k)), some (.int (nI (k + 1))), none] [] σ := by
      intro q
      rw [show fwN P (k + 1) = some k by conv => lhs; unfold fwN; rw [if_pos q]] at stp
      exact stp
    have no : ¬ (plA P k && fwB k (fwN P k)) = true → Go Γ 2 mX0_fewestBits (aP (oV (fewM P)) σ) 4 [some (rf Γ 27), some (.int (oV (fwN P k))), some (.int (nI (k + 1))), none] [] σ := by
      intro q
      rw [show fwN P (k + 1) = fwN P k by conv => lhs; unfold fwN; rw [if_neg q]] at stp
      exact stp
    cases hb : fwN P k with
    | none =>
      rw [hb] at yes no
      refine go_iload_n dX0_fewestBits_4 rfl rfl ?_
      refine go_iconst (v := nI 1) dX0_fewestBits_5 rfl ?_
      refine go_aload_n dX0_fewestBits_6 rfl rfl ?_
      refine go_getR flX0_23 fs_27_0 dX0_fewestBits_7 ?_
      refine go_getI flX0_117 fs_3_2 dX0_fewestBits_10 ?_
      rw [hP.1.1]
      refine go_ishl dX0_fewestBits_13 ?_
      rw [shl_ok (pD P) (by omega)]
      refine go_icmp_ge (tgt := 59) dX0_fewestBits_14 (by decide) (fun c14 => ?_) (fun c14 => ?_)
      · exact absurd c14 (nI_ge (by omega) (by omega))
      · refine go_iload_n dX0_fewestBits_17 rfl rfl ?_
        refine go_iconst (v := (-1)) dX0_fewestBits_18 rfl ?_
        refine go_icmp_eq (tgt := 33) dX0_fewestBits_19 (by decide) (fun c19 => ?_) (fun c19 => ?_)
        · refine go_iconst (v := nI 1) dX0_fewestBits_33 rfl ?_
          refine go_goto (tgt := 38) dX0_fewestBits_34 (by decide) ?_
          refine go_istore_n (L' := [_, _, _, _]) dX0_fewestBits_38 rfl (by decide) rfl rfl ?_
          refine go_iload_n dX0_fewestBits_39 rfl rfl ?_
          refine go_if_eq (tgt := 53) dX0_fewestBits_40 (by decide) (fun c40 => ?_) (fun c40 => ?_)
          · exact absurd c40 (by decide)
          · refine go_aload_n dX0_fewestBits_43 rfl rfl ?_
            refine go_iload_n dX0_fewestBits_44 rfl rfl ?_
            refine go_callVp cvX0_157 os_27 (sp_pleasesAll hP hk1) (by omega) rfl rfl (Nat.le_of_ble_eq_true rfl) dX0_fewestBits_45 ?_
            refine go_if_eq (tgt := 53) dX0_fewestBits_48 (by decide) (fun c48 => ?_) (fun c48 => ?_)
            · refine go_iinc (v := nI (k + 1)) (L' := [_, _, _, _]) dX0_fewestBits_53 rfl (nI_1 _) (by decide) rfl rfl ?_
              refine go_goto (tgt := 4) dX0_fewestBits_56 (by decide) ?_
              exact go_sub [true, true, true, false] rfl (no (by rw [bI_eq0.mp c48]; simp))
            · refine go_iload_n dX0_fewestBits_51 rfl rfl ?_
              refine go_istore_n (L' := [_, _, _, _]) dX0_fewestBits_52 rfl (by decide) rfl rfl ?_
              refine go_iinc (v := nI (k + 1)) (L' := [_, _, _, _]) dX0_fewestBits_53 rfl (nI_1 _) (by decide) rfl rfl ?_
              refine go_goto (tgt := 4) dX0_fewestBits_56 (by decide) ?_
              exact go_sub [true, true, true, false] rfl (yes (by rw [bI_ne0.mp c48]; rfl))
        · exact absurd rfl c19
    | some b =>
      have hbl := fwN_lt k b hb
      rw [hb] at yes no
      have t1 : nI 1 ≠ 0 := by decide
      have t0 : nI 0 = 0 := by decide
      have p1 := pop_lt k
      have p2 := pop_lt b
      refine go_iload_n dX0_fewestBits_4 rfl rfl ?_
      refine go_iconst (v := nI 1) dX0_fewestBits_5 rfl ?_
      refine go_aload_n dX0_fewestBits_6 rfl rfl ?_
      refine go_getR flX0_23 fs_27_0 dX0_fewestBits_7 ?_
      refine go_getI flX0_117 fs_3_2 dX0_fewestBits_10 ?_
      rw [hP.1.1]
      refine go_ishl dX0_fewestBits_13 ?_
      rw [shl_ok (pD P) (by omega)]
      refine go_icmp_ge (tgt := 59) dX0_fewestBits_14 (by decide) (fun c14 => ?_) (fun c14 => ?_)
      · exact absurd c14 (nI_ge (by omega) (by omega))
      · refine go_iload_n dX0_fewestBits_17 rfl rfl ?_
        refine go_iconst (v := (-1)) dX0_fewestBits_18 rfl ?_
        refine go_icmp_eq (tgt := 33) dX0_fewestBits_19 (by decide) (fun c19 => ?_) (fun c19 => ?_)
        · exact absurd c19 (nI_neg1 (by omega))
        · refine go_iload_n dX0_fewestBits_22 rfl rfl ?_
          refine go_callSp csX0_146 (sp_bitCount hk1) (by omega) rfl rfl (Nat.le_of_ble_eq_true rfl) dX0_fewestBits_23 ?_
          refine go_iload_n dX0_fewestBits_26 rfl rfl ?_
          refine go_callSp csX0_146 (sp_bitCount (show b < 64 by omega)) (by omega) rfl rfl (Nat.le_of_ble_eq_true rfl) dX0_fewestBits_27 ?_
          refine go_icmp_ge (tgt := 37) dX0_fewestBits_30 (by decide) (fun c30 => ?_) (fun c30 => ?_)
          · refine go_iconst (v := nI 0) dX0_fewestBits_37 rfl ?_
            refine go_istore_n (L' := [_, _, _, _]) dX0_fewestBits_38 rfl (by decide) rfl rfl ?_
            refine go_iload_n dX0_fewestBits_39 rfl rfl ?_
            refine go_if_eq (tgt := 53) dX0_fewestBits_40 (by decide) (fun c40 => ?_) (fun c40 => ?_)
            · refine go_iinc (v := nI (k + 1)) (L' := [_, _, _, _]) dX0_fewestBits_53 rfl (nI_1 _) (by decide) rfl rfl ?_
              refine go_goto (tgt := 4) dX0_fewestBits_56 (by decide) ?_
              exact go_sub [true, true, true, false] rfl (no (by rw [nI_leI (by omega) (by omega)] at c30; simp [fwB]; intro _; omega))
            · refine go_aload_n dX0_fewestBits_43 rfl rfl ?_
              refine go_iload_n dX0_fewestBits_44 rfl rfl ?_
              refine go_callVp cvX0_157 os_27 (sp_pleasesAll hP hk1) (by omega) rfl rfl (Nat.le_of_ble_eq_true rfl) dX0_fewestBits_45 ?_
              refine go_if_eq (tgt := 53) dX0_fewestBits_48 (by decide) (fun c48 => ?_) (fun c48 => ?_)
              · refine go_iinc (v := nI (k + 1)) (L' := [_, _, _, _]) dX0_fewestBits_53 rfl (nI_1 _) (by decide) rfl rfl ?_
                refine go_goto (tgt := 4) dX0_fewestBits_56 (by decide) ?_
                exact absurd t0 c40
              · refine go_iload_n dX0_fewestBits_51 rfl rfl ?_
                refine go_istore_n (L' := [_, _, _, _]) dX0_fewestBits_52 rfl (by decide) rfl rfl ?_
                refine go_iinc (v := nI (k + 1)) (L' := [_, _, _, _]) dX0_fewestBits_53 rfl (nI_1 _) (by decide) rfl rfl ?_
                refine go_goto (tgt := 4) dX0_fewestBits_56 (by decide) ?_
                exact absurd t0 c40
          · refine go_iconst (v := nI 1) dX0_fewestBits_33 rfl ?_
            refine go_goto (tgt := 38) dX0_fewestBits_34 (by decide) ?_
            refine go_istore_n (L' := [_, _, _, _]) dX0_fewestBits_38 rfl (by decide) rfl rfl ?_
            refine go_iload_n dX0_fewestBits_39 rfl rfl ?_
            refine go_if_eq (tgt := 53) dX0_fewestBits_40 (by decide) (fun c40 => ?_) (fun c40 => ?_)
            · refine go_iinc (v := nI (k + 1)) (L' := [_, _, _, _]) dX0_fewestBits_53 rfl (nI_1 _) (by decide) rfl rfl ?_
              refine go_goto (tgt := 4) dX0_fewestBits_56 (by decide) ?_
              exact absurd c40 t1
            · refine go_aload_n dX0_fewestBits_43 rfl rfl ?_
              refine go_iload_n dX0_fewestBits_44 rfl rfl ?_
              refine go_callVp cvX0_157 os_27 (sp_pleasesAll hP hk1) (by omega) rfl rfl (Nat.le_of_ble_eq_true rfl) dX0_fewestBits_45 ?_
              refine go_if_eq (tgt := 53) dX0_fewestBits_48 (by decide) (fun c48 => ?_) (fun c48 => ?_)
              · refine go_iinc (v := nI (k + 1)) (L' := [_, _, _, _]) dX0_fewestBits_53 rfl (nI_1 _) (by decide) rfl rfl ?_
                refine go_goto (tgt := 4) dX0_fewestBits_56 (by decide) ?_
                exact go_sub [true, true, true, false] rfl (no (by rw [bI_eq0.mp c48]; simp))
              · refine go_iload_n dX0_fewestBits_51 rfl rfl ?_
                refine go_istore_n (L' := [_, _, _, _]) dX0_fewestBits_52 rfl (by decide) rfl rfl ?_
                refine go_iinc (v := nI (k + 1)) (L' := [_, _, _, _]) dX0_fewestBits_53 rfl (nI_1 _) (by decide) rfl rfl ?_
                refine go_goto (tgt := 4) dX0_fewestBits_56 (by decide) ?_
                exact go_sub [true, true, true, false] rfl (yes (by rw [bI_ne0.mp c48]; rw [nI_leI (by omega) (by omega)] at c30; simp [fwB]; omega))
set_option maxHeartbeats 1000000 in
theorem sp_fewestBits {Γ : Gm} {σ : Mm} {P : Pb} (hP : PI σ P) : Sp Γ 2 mX0_fewestBits [rf Γ 27] σ (aP (oV (fewM P)) σ) := by
  refine sp_in (L := [some (rf Γ 27), none, none, none]) rfl (Nat.le_of_ble_eq_true rfl) rfl ?_
  refine go_iconst (v := (-1)) dX0_fewestBits_0 rfl ?_
  refine go_istore_n (L' := [_, _, _, _]) dX0_fewestBits_1 rfl (by decide) rfl rfl ?_
  refine go_iconst (v := nI 0) dX0_fewestBits_2 rfl ?_
  refine go_istore_n (L' := [_, _, _, _]) dX0_fewestBits_3 rfl (by decide) rfl rfl ?_
  exact lp_fewest hP (2 ^ pD P) 0 rfl (Nat.zero_le _)
