/-! the host: dish by dish and by codes is the same -/
def sNt (f : Nat → Nat) : Nat → Nat
  | 0 => 0
  | n + 1 => sNt f n + f n
theorem sNt_congr {f g : Nat → Nat} : ∀ n : Nat, (∀ k, k < n → f k = g k) → sNt f n = sNt g n
  | 0, _ => rfl
  | n + 1, h => by unfold sNt; rw [sNt_congr n (fun k hk => h k (by omega)), h n (by omega)]
theorem sNt_le {f : Nat → Nat} {c : Nat} : ∀ n : Nat, (∀ k, k < n → f k ≤ c) → sNt f n ≤ c * n
  | 0, _ => Nat.le_refl _
  | n + 1, h => by
    have h1 := sNt_le n (fun k hk => h k (by omega))
    have h2 := h n (by omega)
    unfold sNt
    rw [Nat.mul_succ]
    omega
theorem sNt_add {f g : Nat → Nat} : ∀ n : Nat, sNt (fun k => f k + g k) n = sNt f n + sNt g n
  | 0 => rfl
  | n + 1 => by unfold sNt; rw [sNt_add n]; omega
def wn (P : Pb) (g d : Nat) : Nat := (pWa P g d).toNatClampNeg
def bw (p : Nat) (f : Nat → Nat) (i : Nat) : Nat := if p.testBit i = true then f i else 0
def sw (P : Pb) (d p g : Nat) : Nat := sNt (bw p (fun i => wn P i d)) g
def pcn (p g : Nat) : Nat := sNt (bw p (fun _ => 1)) g
theorem pop_pcn : ∀ g, g < 6 → ∀ p, p < 2 ^ g → pop p = pcn p g := by decide +kernel
def okJ (P : Pb) (d st g p : Nat) : Prop := (∀ i, i < g → p.testBit i = true → pPr P d ≤ pPu P i) ∧ pcn p g ≤ st
theorem bit_hi {g o i : Nat} (h : i < g) : (2 ^ g + o).testBit i = o.testBit i := Nat.testBit_two_pow_add_gt h o
theorem bit_at {g o : Nat} (h : o < 2 ^ g) : (2 ^ g + o).testBit g = true := by
  rw [Nat.testBit_two_pow_add_eq, Nat.testBit_lt_two_pow h]; rfl
theorem JS_closed {P : Pb} {d st : Nat} (hst : pSt P d = nI st) (h9 : st ≤ 9) : ∀ (g : Nat), g ≤ 5 → (∀ i, i < g → pWa P i d = nI (wn P i d) ∧ wn P i d ≤ 9) → ∀ p, p < 2 ^ g → (okJ P d st g p → JS P d g p = nI (sw P d p g)) ∧ (¬ okJ P d st g p → JS P d g p = -1)
  | 0, _, _, p, hp => ⟨fun _ => rfl, fun h => absurd ⟨fun i hi => absurd hi (Nat.not_lt_zero i), Nat.zero_le _⟩ h⟩
  | g + 1, hg, hw, p, hp => by
    have ih := JS_closed hst h9 g (by omega) (fun i hi => hw i (by omega))
    by_cases q : p < 2 ^ g
    · have hb : p.testBit g = false := Nat.testBit_lt_two_pow q
      have e1 : sw P d p (g + 1) = sw P d p g := by
        show sw P d p g + bw p (fun i => wn P i d) g = _
        unfold bw; rw [hb, if_neg (by simp), Nat.add_zero]
      have e2 : pcn p (g + 1) = pcn p g := by
        show pcn p g + bw p (fun _ => 1) g = _
        unfold bw; rw [hb, if_neg (by simp), Nat.add_zero]
      have e3 : okJ P d st (g + 1) p ↔ okJ P d st g p := by
        unfold okJ
        rw [e2]
        refine ⟨fun h => ⟨fun i hi => h.1 i (by omega), h.2⟩, fun h => ⟨fun i hi hb2 => ?_, h.2⟩⟩
        by_cases z : i = g
        · subst z; rw [hb] at hb2; cases hb2
        · exact h.1 i (by omega) hb2
      rw [JS_low q, e1, e3]
      exact ih p q
    · obtain ⟨o, rfl⟩ : ∃ o, p = 2 ^ g + o := ⟨p - 2 ^ g, by omega⟩
      have ho : o < 2 ^ g := by rw [pw1] at hp; omega
      have cg : ∀ f : Nat → Nat, sNt (bw (2 ^ g + o) f) g = sNt (bw o f) g := fun f => sNt_congr _ (fun i hi => by unfold bw; rw [bit_hi hi])
      have e1 : sw P d (2 ^ g + o) (g + 1) = sw P d o g + wn P g d := by
        show sNt (bw (2 ^ g + o) (fun i => wn P i d)) g + bw (2 ^ g + o) (fun i => wn P i d) g = _
        rw [cg]; unfold bw; rw [bit_at ho, if_pos rfl]; rfl
      have e2 : pcn (2 ^ g + o) (g + 1) = pcn o g + 1 := by
        show sNt (bw (2 ^ g + o) (fun _ => 1)) g + bw (2 ^ g + o) (fun _ => 1) g = _
        rw [cg]; unfold bw; rw [bit_at ho, if_pos rfl]; rfl
      have e3 : okJ P d st (g + 1) (2 ^ g + o) ↔ (pPr P d ≤ pPu P g ∧ okJ P d st g o ∧ pcn o g < st) := by
        unfold okJ
        rw [e2]
        refine ⟨fun h => ⟨h.1 g (by omega) (bit_at ho), ⟨fun i hi hb => h.1 i (by omega) (by rw [bit_hi hi]; exact hb), by omega⟩, by omega⟩, fun h => ⟨fun i hi hb => ?_, by omega⟩⟩
        by_cases z : i = g
        · subst z; exact h.1
        · rw [bit_hi (by omega)] at hb; exact h.2.1.1 i (by omega) hb
      have hj : JS P d (g + 1) (2 ^ g + o) = if pPr P d ≤ pPu P g ∧ JS P d g o ≠ -1 ∧ nI (pop o) < pSt P d then JS P d g o + pWa P g d else -1 := by
        conv => lhs; unfold JS
        rw [if_neg (by omega), show 2 ^ g + o - 2 ^ g = o by omega]
      have hpo : pop o = pcn o g := pop_pcn g (by omega) o ho
      have hpl := pop_lt o
      have hsw : sw P d o g ≤ 9 * g := sNt_le _ (fun i hi => by unfold bw; split; exact (hw i (by omega)).2; omega)
      have hne : JS P d g o ≠ -1 ↔ okJ P d st g o := by
        constructor
        · intro z
          by_cases y : okJ P d st g o
          · exact y
          · exact absurd ((ih o ho).2 y) z
        · intro z; rw [(ih o ho).1 z]; exact nI_neg1 (by omega)
      have hlt : nI (pop o) < pSt P d ↔ pcn o g < st := by rw [hst, nI_ltI (by omega) (by omega), hpo]
      rw [hj, e3, e1]
      refine ⟨fun h => ?_, fun h => by rw [if_neg (fun z => h ⟨z.1, hne.mp z.2.1, hlt.mp z.2.2⟩)]⟩
      rw [if_pos ⟨h.1, hne.mpr h.2.1, hlt.mpr h.2.2⟩, (ih o ho).1 h.2.1, (hw g (by omega)).1, nI_add]
/-- a row's joy, counted -/
def jw (P : Pb) (h : Nat → Int32) (g : Nat) : Nat := if h g < 0 then 0 else wn P g (h g).toNatClampNeg
def jN (P : Pb) (h : Nat → Int32) : Nat := sNt (jw P h) (pG P)
def HY (P : Pb) : Prop := pG P ≤ 5 ∧ pD P ≤ 6 ∧ (∀ g d, g < pG P → d < pD P → pWa P g d = nI (wn P g d) ∧ wn P g d ≤ 9) ∧ Pok P
theorem HY.di {P : Pb} {h : Nat → Int32} {E : Ev} (hI : DI P h E) : HY P := by
  refine ⟨hI.2.2.1, hI.2.1, fun g d hg hd => ?_, hI.1⟩
  obtain ⟨k, hk, e⟩ := hI.2.2.2.2.2.1 g d hg hd
  unfold wn
  rw [e, nI_clamp (by omega)]
  exact ⟨rfl, hk⟩
def Asg (P : Pb) (d S : Nat) (h : Nat → Int32) : Prop := (∀ g, g < pG P → S.testBit g = false → h g = -1) ∧ (∀ g, g < pG P → h g = -1 ∨ ∃ e, e < d ∧ h g = nI e ∧ pPr P e ≤ pPu P g) ∧ ∀ e k, e < d → pSt P e = nI k → k ≤ 9 → cnt h (nI e) (pG P) ≤ k
theorem jw_9 {P : Pb} {h : Nat → Int32} {d S g : Nat} (hy : HY P) (hd : d ≤ pD P) (ha : Asg P d S h) (hg : g < pG P) : jw P h g ≤ 9 := by
  unfold jw
  split
  · omega
  · rename_i q
    rcases ha.2.1 g hg with z | ⟨e, he, z, -⟩
    · rw [z] at q; exact absurd (by decide) q
    · have := hy.2.1
      rw [z, nI_clamp (by omega)]
      exact (hy.2.2.1 g e hg (by omega)).2
theorem jN_45 {P : Pb} {h : Nat → Int32} {d S : Nat} (hy : HY P) (hd : d ≤ pD P) (ha : Asg P d S h) : jN P h ≤ 45 := by
  have h1 := sNt_le (f := jw P h) (c := 9) (pG P) (fun g hg => jw_9 hy hd ha hg)
  have := hy.1
  have h2 : 9 * pG P ≤ 45 := by omega
  exact Nat.le_trans h1 h2
theorem joyA_jN {P : Pb} {h : Nat → Int32} {d S : Nat} (hy : HY P) (hd : d ≤ pD P) (ha : Asg P d S h) : joyA P h = nI (jN P h) := by
  have key : ∀ n, n ≤ pG P → sumN (joyM P h) n = nI (sNt (jw P h) n) := by
    intro n
    induction n with
    | zero => intro _; rfl
    | succ n ih =>
      intro hn
      show sumN (joyM P h) n + joyM P h n = nI (sNt (jw P h) n + jw P h n)
      rw [ih (by omega), ← nI_add]
      congr 1
      unfold joyM jw
      rcases ha.2.1 n (by omega) with z | ⟨e, he, z, -⟩
      · rw [z]; rfl
      · have := hy.2.1
        rw [z, if_neg (nI_pos (by omega)), if_neg (nI_pos (by omega)), nI_clamp (by omega)]
        exact (hy.2.2.1 n e (by omega) (by omega)).1
  exact key _ (Nat.le_refl _)
/-- who has dish d, as a set -/
def mk (h : Nat → Int32) (d : Nat) : Nat → Nat
  | 0 => 0
  | g + 1 => if h g = nI d then 2 ^ g + mk h d g else mk h d g
theorem mk_lt {h : Nat → Int32} {d : Nat} : ∀ g : Nat, mk h d g < 2 ^ g
  | 0 => Nat.lt_succ_self 0
  | g + 1 => by
    have := mk_lt (h := h) (d := d) g
    rw [pw1]
    unfold mk
    split <;> omega
theorem mk_bit {h : Nat → Int32} {d : Nat} : ∀ g i : Nat, i < g → (mk h d g).testBit i = decide (h i = nI d)
  | 0, i, hi => absurd hi (Nat.not_lt_zero i)
  | g + 1, i, hi => by
    have hl := mk_lt (h := h) (d := d) g
    unfold mk
    by_cases z : i = g
    · subst z
      split
      · rename_i q; rw [bit_at hl, decide_eq_true q]
      · rename_i q; rw [Nat.testBit_lt_two_pow hl, decide_eq_false q]
    · split
      · rw [bit_hi (by omega)]; exact mk_bit g i (by omega)
      · exact mk_bit g i (by omega)
theorem bits_eq {p q g : Nat} (hp : p < 2 ^ g) (hq : q < 2 ^ g) (h : ∀ i, i < g → p.testBit i = q.testBit i) : p = q := by
  refine Nat.eq_of_testBit_eq (fun i => ?_)
  by_cases z : i < g
  · exact h i z
  · have h2 : 2 ^ g ≤ 2 ^ i := Nat.pow_le_pow_right (by omega) (by omega)
    rw [Nat.testBit_lt_two_pow (Nat.lt_of_lt_of_le hp h2), Nat.testBit_lt_two_pow (Nat.lt_of_lt_of_le hq h2)]
theorem pcn_cnt {h : Nat → Int32} {d p : Nat} : ∀ n : Nat, (∀ i, i < n → p.testBit i = decide (h i = nI d)) → pcn p n = cnt h (nI d) n
  | 0, _ => rfl
  | n + 1, q => by
    show pcn p n + bw p (fun _ => 1) n = cnt h (nI d) n + (if h n = nI d then 1 else 0)
    rw [pcn_cnt n (fun i hi => q i (by omega))]
    unfold bw
    rw [q n (by omega)]
    by_cases z : h n = nI d <;> simp [z]
