/-! the host: the best over all rows -/
theorem cnt_sub {h h' : Nat → Int32} {y : Int32} : ∀ n : Nat, (∀ g, g < n → h' g = y → h g = y) → cnt h' y n ≤ cnt h y n
  | 0, _ => Nat.le_refl _
  | n + 1, q => by
    have h1 := cnt_sub n (fun g hg => q g (by omega))
    show cnt h' y n + (if h' n = y then 1 else 0) ≤ cnt h y n + (if h n = y then 1 else 0)
    by_cases z : h' n = y
    · rw [if_pos z, if_pos (q n (by omega) z)]; omega
    · rw [if_neg z]; omega
theorem mk_in {P : Pb} {d S : Nat} {h : Nat → Int32} (hd : d < 6) (ha : Asg P (d + 1) S h) : mk h d (pG P) &&& S = mk h d (pG P) := by
  refine Nat.eq_of_testBit_eq (fun i => ?_)
  rw [Nat.testBit_and]
  by_cases z : i < pG P
  · rw [mk_bit _ i z]
    by_cases q : h i = nI d
    · cases hs : S.testBit i with
      | true => simp
      | false => exact absurd (q.symm.trans (ha.1 i z hs)) (nI_neg1 (by omega))
    · simp [q]
  · have h2 : 2 ^ pG P ≤ 2 ^ i := Nat.pow_le_pow_right (by omega) (by omega)
    rw [Nat.testBit_lt_two_pow (Nat.lt_of_lt_of_le (mk_lt _) h2)]
    rfl
theorem mk_ok {P : Pb} {d S st : Nat} {h : Nat → Int32} (hd : d < 6) (hst : pSt P d = nI st) (h9 : st ≤ 9) (ha : Asg P (d + 1) S h) : okJ P d st (pG P) (mk h d (pG P)) := by
  refine ⟨fun i hi hb => ?_, ?_⟩
  · rw [mk_bit _ i hi] at hb
    have hb := of_decide_eq_true hb
    rcases ha.2.1 i hi with z | ⟨e, he, z, hp⟩
    · exact absurd (hb.symm.trans z) (nI_neg1 (by omega))
    · have := (nI_eq (by omega) (by omega)).mp (hb.symm.trans z)
      subst this
      exact hp
  · rw [pcn_cnt (h := h) (d := d) _ (fun i hi => mk_bit _ i hi)]
    exact ha.2.2 d st (by omega) hst h9
theorem asg_split {P : Pb} {d S : Nat} {h : Nat → Int32} (hd : d < 6) (ha : Asg P (d + 1) S h) : ∃ h', Asg P d (S ^^^ mk h d (pG P)) h' ∧ jN P h = jN P h' + sw P d (mk h d (pG P)) (pG P) := by
  have hb := fun i hi => mk_bit (h := h) (d := d) (pG P) i hi
  generalize mk h d (pG P) = p at hb ⊢
  refine ⟨fun g => if h g = nI d then -1 else h g, ⟨fun g hg hs => ?_, fun g hg => ?_, fun e k he hk h9 => ?_⟩, ?_⟩
  · show (if h g = nI d then -1 else h g) = -1
    rw [Nat.testBit_xor, hb g hg] at hs
    by_cases q : h g = nI d
    · rw [if_pos q]
    · rw [if_neg q]
      rw [decide_eq_false q, Bool.xor_false] at hs
      exact ha.1 g hg hs
  · show (if h g = nI d then -1 else h g) = -1 ∨ ∃ e, e < d ∧ (if h g = nI d then -1 else h g) = nI e ∧ pPr P e ≤ pPu P g
    by_cases q : h g = nI d
    · rw [if_pos q]; exact Or.inl rfl
    · rw [if_neg q]
      rcases ha.2.1 g hg with z | ⟨e, he, z, hp⟩
      · exact Or.inl z
      · exact Or.inr ⟨e, by
          by_cases y : e = d
          · subst y; exact absurd z q
          · omega, z, hp⟩
  · refine Nat.le_trans (cnt_sub _ (fun g _ z => ?_)) (ha.2.2 e k (by omega) hk h9)
    by_cases q : h g = nI d
    · rw [if_pos q] at z; exact absurd z.symm (nI_neg1 (by omega))
    · rw [if_neg q] at z; exact z
  · unfold jN sw
    rw [← sNt_add]
    refine sNt_congr _ (fun g hg => ?_)
    unfold jw bw
    rw [hb g hg]
    show (if h g < 0 then 0 else wn P g (h g).toNatClampNeg) = (if (if h g = nI d then (-1 : Int32) else h g) < 0 then 0 else wn P g (if h g = nI d then (-1 : Int32) else h g).toNatClampNeg) + (if decide (h g = nI d) = true then wn P g d else 0)
    by_cases q : h g = nI d
    · rw [if_pos q, if_pos (show (-1 : Int32) < 0 by decide), decide_eq_true q, if_pos rfl, q, if_neg (nI_pos (n := d) (by omega)), nI_clamp (by omega), Nat.zero_add]
    · rw [if_neg q, decide_eq_false q, if_neg (show ¬ false = true by decide), Nat.add_zero]
theorem asg_join {P : Pb} {d S st p : Nat} {h : Nat → Int32} (hd : d < 6) (hst : pSt P d = nI st) (h9 : st ≤ 9) (hp : p < 2 ^ pG P) (hs : p &&& S = p) (ok : okJ P d st (pG P) p) (ha : Asg P d (S ^^^ p) h) : ∃ h', Asg P (d + 1) S h' ∧ mk h' d (pG P) = p ∧ jN P h' = jN P h + sw P d p (pG P) := by
  have sub : ∀ g, p.testBit g = true → S.testBit g = true := fun g q => by
    have := congrArg (fun x => x.testBit g) hs
    simp only [Nat.testBit_and, q, Bool.true_and] at this
    exact this
  have hp1 : ∀ g, g < pG P → p.testBit g = true → h g = -1 := fun g hg q => ha.1 g hg (by rw [Nat.testBit_xor, sub g q, q]; rfl)
  have hnd : ∀ g, g < pG P → h g ≠ nI d := fun g hg z => by
    rcases ha.2.1 g hg with y | ⟨e, he, y, -⟩
    · exact absurd (z.symm.trans y) (nI_neg1 (by omega))
    · have := (nI_eq (by omega) (by omega)).mp (z.symm.trans y); omega
  have hb : ∀ g, g < pG P → p.testBit g = decide ((if p.testBit g = true then nI d else h g) = nI d) := fun g hg => by
    cases q : p.testBit g with
    | true => simp
    | false => simp [hnd g hg]
  refine ⟨fun g => if p.testBit g = true then nI d else h g, ⟨fun g hg hs0 => ?_, fun g hg => ?_, fun e k he hk h9' => ?_⟩, ?_, ?_⟩
  · show (if p.testBit g = true then nI d else h g) = -1
    cases q : p.testBit g with
    | true => rw [sub g q] at hs0; cases hs0
    | false => rw [if_neg (by decide)]; exact ha.1 g hg (by rw [Nat.testBit_xor, hs0, q]; rfl)
  · show (if p.testBit g = true then nI d else h g) = -1 ∨ ∃ e, e < d + 1 ∧ (if p.testBit g = true then nI d else h g) = nI e ∧ pPr P e ≤ pPu P g
    cases q : p.testBit g with
    | true => exact Or.inr ⟨d, by omega, by rw [if_pos rfl], ok.1 g hg q⟩
    | false =>
      rw [if_neg (by decide)]
      rcases ha.2.1 g hg with y | ⟨e, he, y, y2⟩
      · exact Or.inl y
      · exact Or.inr ⟨e, by omega, y, y2⟩
  · by_cases z : e = d
    · subst z
      have hk' : k = st := (nI_eq (by omega) (by omega)).mp (hk.symm.trans hst)
      subst hk'
      rw [← pcn_cnt (p := p) _ hb]
      exact ok.2
    · refine Nat.le_trans (cnt_sub _ (fun g hg y => ?_)) (ha.2.2 e k (by omega) hk h9')
      cases q : p.testBit g with
      | true => rw [if_pos q] at y; exact absurd ((nI_eq (by omega) (by omega)).mp y.symm) z
      | false => rw [if_neg (by rw [q]; decide)] at y; exact y
  · exact bits_eq (mk_lt _) hp (fun i hi => by rw [mk_bit _ i hi]; exact (hb i hi).symm)
  · unfold jN sw
    rw [← sNt_add]
    refine sNt_congr _ (fun g hg => ?_)
    unfold jw bw
    show (if (if p.testBit g = true then nI d else h g) < 0 then 0 else wn P g (if p.testBit g = true then nI d else h g).toNatClampNeg) = (if h g < 0 then 0 else wn P g (h g).toNatClampNeg) + (if p.testBit g = true then wn P g d else 0)
    by_cases q : p.testBit g = true
    · rw [if_pos q, if_pos q, if_neg (nI_pos (n := d) (by omega)), nI_clamp (by omega), hp1 g hg q, if_pos (show (-1 : Int32) < 0 by decide), Nat.zero_add]
    · rw [if_neg q, if_neg q, Nat.add_zero]
def Bst (P : Pb) (d S : Nat) (B : Int32) : Prop := ∃ v, B = nI v ∧ (∃ h, Asg P d S h ∧ jN P h = v) ∧ ∀ h, Asg P d S h → jN P h ≤ v
theorem sw0 {P : Pb} {d : Nat} : ∀ g : Nat, sw P d 0 g = 0
  | 0 => rfl
  | g + 1 => by
    show sw P d 0 g + bw 0 (fun i => wn P i d) g = 0
    rw [sw0 g]; unfold bw; simp
theorem pcn0 : ∀ g : Nat, pcn 0 g = 0
  | 0 => rfl
  | g + 1 => by
    show pcn 0 g + bw 0 (fun _ => 1) g = 0
    rw [pcn0 g]; unfold bw; simp
theorem ok0 {P : Pb} {d st g : Nat} : okJ P d st g 0 := ⟨fun i _ hb => by simp at hb, by rw [pcn0]; exact Nat.zero_le _⟩
theorem bst {P : Pb} (hy : HY P) : ∀ d : Nat, d ≤ pD P → ∀ S, S < 2 ^ pG P → Bst P d S (BG P d S)
  | 0, _, S, hS => by
    have z : ∀ h, Asg P 0 S h → jN P h = 0 := fun h ha => by
      have : jN P h ≤ 0 * pG P := sNt_le _ (fun g hg => by
        unfold jw
        rcases ha.2.1 g hg with y | ⟨e, he, -⟩
        · rw [y, if_pos (by decide)]; exact Nat.le_refl _
        · omega)
      rw [Nat.zero_mul] at this
      omega
    have a0 : Asg P 0 S (fun _ => -1) := ⟨fun _ _ _ => rfl, fun _ _ => Or.inl rfl, fun e k he => absurd he (Nat.not_lt_zero e)⟩
    exact ⟨0, rfl, ⟨_, a0, z _ a0⟩, fun h ha => by rw [z h ha]; exact Nat.le_refl _⟩
  | d + 1, hd, S, hS => by
    have ih := bst hy d (by omega)
    obtain ⟨st, hst, -, h9⟩ := hy.2.2.2 d (by omega)
    have hD6 := hy.2.1
    have hd6 : d < 6 := by omega
    have hJ := JS_closed hst h9 (pG P) hy.1 (fun i hi => hy.2.2.1 i d hi (by omega))
    have h32 := pw5 hy.1
    have inner : ∀ k, k ≤ S → ∃ v, pf (BG P d) (JS P d (pG P)) S k = nI v ∧ (∃ h, Asg P (d + 1) S h ∧ mk h d (pG P) ≤ k ∧ jN P h = v) ∧ ∀ h, Asg P (d + 1) S h → mk h d (pG P) ≤ k → jN P h ≤ v := by
      intro k
      induction k with
      | zero =>
        intro _
        obtain ⟨v, e, ⟨h, ha, hj⟩, up⟩ := ih S hS
        refine ⟨v, e, ?_, fun h ha hm => ?_⟩
        · obtain ⟨h', a1, a2, a3⟩ := asg_join (p := 0) hd6 hst h9 (Nat.two_pow_pos _) (Nat.zero_and S) ok0 (by rw [Nat.xor_zero]; exact ha)
          exact ⟨h', a1, by omega, by rw [a3, hj, sw0]; rfl⟩
        · obtain ⟨h', a1, a2⟩ := asg_split hd6 ha
          have hz : mk h d (pG P) = 0 := by omega
          rw [hz, Nat.xor_zero] at a1
          rw [hz, sw0] at a2
          have := up h' a1
          omega
      | succ k ihk =>
        intro hk
        obtain ⟨v, e, ⟨h, ha, hm, hj⟩, up⟩ := ihk (by omega)
        have hkG : k + 1 < 2 ^ pG P := by omega
        unfold pf
        rw [e]
        by_cases q : (k + 1) &&& S = k + 1 ∧ JS P d (pG P) (k + 1) ≠ -1
        · rw [if_pos q]
          have ok : okJ P d st (pG P) (k + 1) := by
            by_cases y : okJ P d st (pG P) (k + 1)
            · exact y
            · exact absurd ((hJ (k + 1) hkG).2 y) q.2
          have hx := xor_lt S (by omega) (k + 1) (by omega) (by omega) q.1
          obtain ⟨v2, e2, ⟨h2, ha2, hj2⟩, up2⟩ := ih (S ^^^ (k + 1)) (by omega)
          rw [e2, (hJ (k + 1) hkG).1 ok, nI_add]
          have b1 := jN_45 hy (by omega) ha
          obtain ⟨h3, a1, a2, a3⟩ := asg_join hd6 hst h9 hkG q.1 ok ha2
          have b2 := jN_45 hy (by omega) a1
          refine ⟨max v (v2 + sw P d (k + 1) (pG P)), ?_, ?_, fun h4 a4 m4 => ?_⟩
          · unfold mx
            by_cases y : v < v2 + sw P d (k + 1) (pG P)
            · rw [if_pos ((nI_ltI (by omega) (by omega)).mpr y), Nat.max_eq_right (by omega)]
            · rw [if_neg (fun z => y ((nI_ltI (by omega) (by omega)).mp z)), Nat.max_eq_left (by omega)]
          · by_cases y : v < v2 + sw P d (k + 1) (pG P)
            · exact ⟨h3, a1, by omega, by rw [a3, hj2]; omega⟩
            · exact ⟨h, ha, by omega, by omega⟩
          · by_cases y : mk h4 d (pG P) ≤ k
            · have := up h4 a4 y; omega
            · have hz : mk h4 d (pG P) = k + 1 := by omega
              obtain ⟨h5, a5, a6⟩ := asg_split hd6 a4
              rw [hz] at a5 a6
              have := up2 h5 a5
              omega
        · rw [if_neg q]
          refine ⟨v, rfl, ⟨h, ha, by omega, hj⟩, fun h4 a4 m4 => ?_⟩
          by_cases y : mk h4 d (pG P) ≤ k
          · exact up h4 a4 y
          · exfalso
            have hz : mk h4 d (pG P) = k + 1 := by omega
            have i1 := mk_in hd6 a4
            have i2 := mk_ok hd6 hst h9 a4
            rw [hz] at i1 i2
            have hb : sw P d (k + 1) (pG P) ≤ 9 * pG P := sNt_le _ (fun i hi => by unfold bw; split; exact (hy.2.2.1 i d hi (by omega)).2; omega)
            have := hy.1
            exact q ⟨i1, by rw [(hJ (k + 1) hkG).1 i2]; exact nI_neg1 (by omega)⟩
    obtain ⟨v, e, ⟨h, a, -, j⟩, up⟩ := inner S (Nat.le_refl _)
    exact ⟨v, e, ⟨h, a, j⟩, fun h4 a4 => up h4 a4 (by have := mk_in hd6 a4; rw [← this]; exact Nat.and_le_right)⟩
