/-! urges, fits -/
theorem lay_congr {P P' : Pb} {f : Nat} (hG : pG P' = pG P) (hb : ∀ h g, bestM P' h g = bestM P h g) : lay P' f = lay P f := by
  have e : ∀ k, layR P' f k = layR P f k := by
    intro k
    induction k with
    | zero => rfl
    | succ k ih =>
      unfold layR
      rw [ih]
      have : gat P' f k = gat P f k := by unfold gat; rw [hG]
      rw [this, hb]
  unfold lay
  rw [hG, e]
theorem lay_ur0 {P : Pb} {u v : Int32} {f : Nat} : lay (setUr P u 0) f = lay (setUr P v 0) f := by
  refine lay_congr rfl (fun h g => ?_)
  have e : ∀ d, valM (setUr P u 0) h g d = valM (setUr P v 0) h g d := by
    intro d
    unfold valM
    show _ + (if nI d = u then (0 : Int32) else 0) = _ + (if nI d = v then (0 : Int32) else 0)
    simp only [ite_self]
    rfl
  show (fB (mayM P h g) (valM (setUr P u 0) h g) (pD P)).1 = (fB (mayM P h g) (valM (setUr P v 0) h g) (pD P)).1
  rw [fB_congr (pD P) (fun d _ => ⟨rfl, fun _ => e d⟩)]
def urgM (P : Pb) (d f : Nat) (times : Int32) : Nat → Nat → Int32
  | 0, _ => -1
  | n + 1, m => if times ≤ nI (cnt (lay (setUr P (nI d) (nI m)) f) (nI d) (pG P)) then nI m else urgM P d f times n (m + 1)
theorem TI.setUr {σ : Mm} {t : Nat} {P : Pb} {h : Nat → Int32} (hT : TI σ t P h) (u m : Int32) : TI (stI (stI σ t 6 u) t 7 m) t (setUr P u m) h := by
  obtain ⟨⟨u1, u2, u3⟩, h5, h6⟩ := hT
  refine ⟨⟨?_, ?_, ?_⟩, fun d hd => ?_, fun g hg hz => ?_⟩
  · simp (disch := omega) only [stI_at, stI_ne]; rfl
  · simp (disch := omega) only [stI_at, stI_ne]; rfl
  · simp (disch := omega) only [stI_at, stI_ne]; exact u3
  · simp (disch := omega) only [stI_at, stI_ne]; exact h5 d hd
  · simp (disch := omega) only [stI_at, stI_ne]; exact h6 g hg hz
theorem TI.setLo {σ : Mm} {t : Nat} {P : Pb} {h : Nat → Int32} (hT : TI σ t P h) (x : Int32) : TI (stI σ t 8 x) t (setLo P x) h := by
  obtain ⟨⟨u1, u2, u3⟩, h5, h6⟩ := hT
  refine ⟨⟨?_, ?_, ?_⟩, fun d hd => ?_, fun g hg hz => ?_⟩
  · simp (disch := omega) only [stI_at, stI_ne]; exact u1
  · simp (disch := omega) only [stI_at, stI_ne]; exact u2
  · simp (disch := omega) only [stI_at, stI_ne]; rfl
  · simp (disch := omega) only [stI_at, stI_ne]; exact h5 d hd
  · simp (disch := omega) only [stI_at, stI_ne]; exact h6 g hg hz
set_option maxHeartbeats 1000000 in
theorem lp_leastUrge {Γ : Gm} {σ : Mm} {P : Pb} {d f : Nat} {times : Int32} (hS : SU σ P) (hk : Pok P) (hd : d < pD P) (hf : f < pG P) : ∀ (n m : Nat) (σ' : Mm), m + n = 21 → OT 36 σ σ' → Go Γ 4 mX0_leastUrge (aI (urgM P d f times n m) (OT 36 σ)) 3 [some (rf Γ 27), some (.int (nI d)), some (.int (nI f)), some (.int times), some (.int (nI m))] [] σ' := by
  have hD := hS.1.1.2
  intro n
  induction n with
  | zero =>
    intro m σ' hm hO
    have e : m = 21 := by omega
    subst e
    refine go_iload dX0_leastUrge_3 rfl ?_
    refine go_bipush (v := nI 20) dX0_leastUrge_5 rfl ?_
    refine go_icmp_gt (tgt := 51) dX0_leastUrge_7 (by decide) (fun c7 => ?_) (fun c7 => ?_)
    · refine go_iconst (v := (-1)) dX0_leastUrge_51 rfl ?_
      refine go_iret rfl dX0_leastUrge_52 ?_
      exact ⟨rfl, hO⟩
    · exact absurd (by decide) c7
  | succ n ih =>
    intro m σ' hm hO
    have hS' := hS.ot hO
    have el : lay (setUr P (if nI m = 0 then -1 else nI d) (nI m)) f = lay (setUr P (nI d) (nI m)) f := by
      by_cases z : nI m = 0
      · rw [if_pos z, z]; exact lay_ur0
      · rw [if_neg z]
    refine go_iload dX0_leastUrge_3 rfl ?_
    refine go_bipush (v := nI 20) dX0_leastUrge_5 rfl ?_
    refine go_icmp_gt (tgt := 51) dX0_leastUrge_7 (by decide) (fun c7 => ?_) (fun c7 => ?_)
    · exact absurd c7 (nI_nlt (by omega) (by omega))
    · refine go_aload_n dX0_leastUrge_10 rfl rfl ?_
      refine go_callVv cvX0_79 os_27 (sp_setUp hS') (by omega) rfl rfl (Nat.le_of_ble_eq_true rfl) dX0_leastUrge_11 (fun σ1 q1 => ?_)
      refine go_aload_n dX0_leastUrge_14 rfl rfl ?_
      refine go_getR flX0_40 fs_27_3 dX0_leastUrge_15 ?_
      refine go_iload_n dX0_leastUrge_18 rfl rfl ?_
      refine go_iload dX0_leastUrge_19 rfl ?_
      refine go_callVv cvX0_59 os_36 (sp_press isT36) (by omega) rfl rfl (Nat.le_of_ble_eq_true rfl) dX0_leastUrge_21 (fun σ2 q2 => ?_)
      have o2 : OT 36 σ' σ2 := by rw [q2]; exact (q1.2.st (by omega) (by omega)).st (by omega) (by omega)
      have t2 : TI σ2 36 (setUr P (if nI m = 0 then -1 else nI d) (nI m)) (fun _ => -2) := by rw [q2]; exact q1.1.setUr _ _
      refine go_aload_n dX0_leastUrge_24 rfl rfl ?_
      refine go_iload_n dX0_leastUrge_25 rfl rfl ?_
      refine go_callVv cvX0_82 os_27 (sp_goRound (P := setUr P (if nI m = 0 then -1 else nI d) (nI m)) (hS'.ot o2).1 hk hf t2) (by omega) rfl rfl (Nat.le_of_ble_eq_true rfl) dX0_leastUrge_26 (fun σ3 q3 => ?_)
      have hh : σ3.1 38 d = nI (cnt (lay (setUr P (nI d) (nI m)) f) (nI d) (pG P)) := by rw [← el]; exact (q3.1.2.1 d hd).2
      refine go_aload_n dX0_leastUrge_29 rfl rfl ?_
      refine go_getR flX0_40 fs_27_3 dX0_leastUrge_30 ?_
      refine go_getR flX0_160 fs_36_3 dX0_leastUrge_33 ?_
      refine go_iload_n dX0_leastUrge_36 rfl rfl ?_
      refine go_iald (d) rfl as_38 (by omega) (by decide) dX0_leastUrge_37 ?_
      rw [hh]
      refine go_iload_n dX0_leastUrge_38 rfl rfl ?_
      refine go_icmp_lt (tgt := 45) dX0_leastUrge_39 (by decide) (fun c39 => ?_) (fun c39 => ?_)
      · refine go_iinc (v := nI (m + 1)) (L' := [_, _, _, _, _]) dX0_leastUrge_45 rfl (nI_1 _) (by decide) rfl rfl ?_
        refine go_goto (tgt := 3) dX0_leastUrge_48 (by decide) ?_
        have e1 : urgM P d f times (n + 1) m = urgM P d f times n (m + 1) := by conv => lhs; unfold urgM; rw [if_neg (Int32.not_le.mpr c39)]
        rw [e1]
        exact ih (m + 1) σ3 (by omega) (hO.trans (o2.trans q3.2))
      · refine go_iload dX0_leastUrge_42 rfl ?_
        refine go_iret rfl dX0_leastUrge_44 ?_
        refine ⟨?_, hO.trans (o2.trans q3.2)⟩
        unfold urgM
        rw [if_pos (Int32.not_lt.mp c39)]
set_option maxHeartbeats 1000000 in
theorem sp_leastUrge {Γ : Gm} {σ : Mm} {P : Pb} {d f : Nat} {times : Int32} (hS : SU σ P) (hk : Pok P) (hd : d < pD P) (hf : f < pG P) : Sp Γ 4 mX0_leastUrge [rf Γ 27, .int (nI d), .int (nI f), .int times] σ (aI (urgM P d f times 21 0) (OT 36 σ)) := by
  refine sp_in (L := [some (rf Γ 27), some (.int (nI d)), some (.int (nI f)), some (.int times), none]) rfl (Nat.le_of_ble_eq_true rfl) rfl ?_
  refine go_iconst (v := nI 0) dX0_leastUrge_0 rfl ?_
  refine go_istore (L' := [_, _, _, _, _]) dX0_leastUrge_1 (by decide) rfl rfl ?_
  exact lp_leastUrge hS hk hd hf 21 0 σ rfl OT.rf
/-- evenings: how many, from whom on, who, what -/
abbrev Ev : Type := Nat × (Nat → Nat) × (Nat → Nat) × (Nat → Int32)
/-- the class's log (23 or 54) holds E -/
def LI (σ : Mm) (l : Nat) (G : Nat) (E : Ev) : Prop := σ.1 l 3 = nI E.1 ∧ E.1 ≤ 4 ∧ ∀ e, e < E.1 → σ.1 (l + 1) e = nI (E.2.1 e) ∧ E.2.1 e < G ∧ σ.1 (l + 2) e = nI (E.2.2.1 e) ∧ E.2.2.1 e < G ∧ σ.1 (l + 3) e = E.2.2.2 e
theorem LI.ot {σ σ' : Mm} {G : Nat} {E : Ev} (h : OT 36 σ σ') (hL : LI σ 23 G E) : LI σ' 23 G E := by
  obtain ⟨a, b, c⟩ := hL
  refine ⟨by rw [h.1 23 (by omega)]; exact a, b, fun e he => ?_⟩
  rw [h.1 (23 + 1) (by omega), h.1 (23 + 2) (by omega), h.1 (23 + 3) (by omega)]
  exact c e he
def fitE (P : Pb) (E : Ev) (x : Int32) (e : Nat) : Bool := decide (lay (setLo P x) (E.2.1 e) (E.2.2.1 e) = E.2.2.2 e)
def fitB (P : Pb) (E : Ev) (x : Int32) : Bool := allB (fitE P E x) E.1
theorem allB_iff {f : Nat → Bool} : ∀ {n : Nat}, allB f n = true ↔ ∀ k, k < n → f k = true
  | 0 => by simp [allB]
  | n + 1 => by
    unfold allB
    rw [Bool.and_eq_true, allB_iff]
    constructor
    · rintro ⟨h1, h2⟩ k hk
      by_cases e : k = n
      · subst e; exact h2
      · exact h1 k (by omega)
    · intro h
      exact ⟨fun k hk => h k (by omega), h n (by omega)⟩
theorem allB_false {f : Nat → Bool} {n k : Nat} (hk : k < n) (h : f k = false) : allB f n = false := by
  cases e : allB f n with
  | false => rfl
  | true => rw [allB_iff.mp e k hk] at h; cases h
set_option maxHeartbeats 1000000 in
theorem lp_wouldFit {Γ : Gm} {σ : Mm} {P : Pb} {E : Ev} {x : Int32} (hS : SU σ P) (hk : Pok P) (hE : LI σ 23 (pG P) E) : ∀ (m e : Nat) (σ' : Mm), E.1 - e = m → e ≤ E.1 → allB (fitE P E x) e = true → OT 36 σ σ' → Go Γ 4 mX0_wouldFit (aI (bI (fitB P E x)) (OT 36 σ)) 2 [some (rf Γ 27), some (rf Γ 23), some (.int x), some (.int (nI e))] [] σ' := by
  have hD := hS.1.1.2
  have hG := hS.1.2.1.2
  intro m
  induction m with
  | zero =>
    intro e σ' hm he ha hO
    have q : e = E.1 := by omega
    subst q
    refine go_iload_n dX0_wouldFit_2 rfl rfl ?_
    refine go_aload_n dX0_wouldFit_3 rfl rfl ?_
    refine go_getI flX0_167 fs_23_3 dX0_wouldFit_4 ?_
    rw [(hE.ot hO).1]
    refine go_icmp_ge (tgt := 63) dX0_wouldFit_7 (by decide) (fun c7 => ?_) (fun c7 => ?_)
    · refine go_iconst (v := nI 1) dX0_wouldFit_63 rfl ?_
      refine go_zret rfl dX0_wouldFit_64 (by first | exact Or.inl rfl | exact Or.inr rfl | exact bI_01 _) ?_
      exact ⟨by rw [show fitB P E x = true from ha]; rfl, hO⟩
    · exact absurd (Int32.le_refl _) c7
  | succ m ih =>
    intro e σ' hm he ha hO
    have he1 : e < E.1 := by omega
    have hS' := hS.ot hO
    have hE' := hE.ot hO
    have h4 := hE.2.1
    obtain ⟨f1, f2, f3, f4, f5⟩ := hE.2.2 e he1
    refine go_iload_n dX0_wouldFit_2 rfl rfl ?_
    refine go_aload_n dX0_wouldFit_3 rfl rfl ?_
    refine go_getI flX0_167 fs_23_3 dX0_wouldFit_4 ?_
    rw [hE'.1]
    refine go_icmp_ge (tgt := 63) dX0_wouldFit_7 (by decide) (fun c7 => ?_) (fun c7 => ?_)
    · exact absurd c7 (nI_ge (by omega) (by omega))
    · refine go_aload_n dX0_wouldFit_10 rfl rfl ?_
      refine go_callVv cvX0_79 os_27 (sp_setUp hS') (by omega) rfl rfl (Nat.le_of_ble_eq_true rfl) dX0_wouldFit_11 (fun σ1 q1 => ?_)
      have o2 : OT 36 σ (stI σ1 36 8 x) := hO.trans (q1.2.st (by omega) (by omega))
      have t2 : TI (stI σ1 36 8 x) 36 (setLo P x) (fun _ => -2) := q1.1.setLo x
      refine go_aload_n dX0_wouldFit_14 rfl rfl ?_
      refine go_getR flX0_40 fs_27_3 dX0_wouldFit_15 ?_
      refine go_iload_n dX0_wouldFit_18 rfl rfl ?_
      refine go_putI fwX0_52 fs_36_8 dX0_wouldFit_19 ?_
      refine go_aload_n dX0_wouldFit_22 rfl rfl ?_
      refine go_aload_n dX0_wouldFit_23 rfl rfl ?_
      refine go_getR flX0_170 fs_23_0 dX0_wouldFit_24 ?_
      refine go_iload_n dX0_wouldFit_27 rfl rfl ?_
      refine go_iald (e) rfl as_24 (by omega) (by decide) dX0_wouldFit_28 ?_
      rw [((hE.ot o2).2.2 e he1).1]
      refine go_callVv cvX0_82 os_27 (sp_goRound (P := setLo P x) (hS.ot o2).1 hk f2 t2) (by omega) rfl rfl (Nat.le_of_ble_eq_true rfl) dX0_wouldFit_29 (fun σ3 q3 => ?_)
      have o3 := o2.trans q3.2
      refine go_aload_n dX0_wouldFit_32 rfl rfl ?_
      refine go_getR flX0_40 fs_27_3 dX0_wouldFit_33 ?_
      refine go_getR flX0_86 fs_36_4 dX0_wouldFit_36 ?_
      refine go_aload_n dX0_wouldFit_39 rfl rfl ?_
      refine go_getR flX0_173 fs_23_1 dX0_wouldFit_40 ?_
      refine go_iload_n dX0_wouldFit_43 rfl rfl ?_
      refine go_iald (e) rfl as_25 (by omega) (by decide) dX0_wouldFit_44 ?_
      rw [((hE.ot o3).2.2 e he1).2.2.1]
      refine go_iald (E.2.2.1 e) rfl as_39 (by omega) (by decide) dX0_wouldFit_45 ?_
      refine go_aload_n dX0_wouldFit_46 rfl rfl ?_
      refine go_getR flX0_176 fs_23_2 dX0_wouldFit_47 ?_
      refine go_iload_n dX0_wouldFit_50 rfl rfl ?_
      refine go_iald (e) rfl as_26 (by omega) (by decide) dX0_wouldFit_51 ?_
      rw [((hE.ot o3).2.2 e he1).2.2.2.2, (q3.1.2.2 (E.2.2.1 e) (by omega) (Or.inr f4)).1, hC_full (P := setLo P x) (lay_full (P := setLo P x) f2 hD) f4]
      refine go_icmp_eq (tgt := 57) dX0_wouldFit_52 (by decide) (fun c52 => ?_) (fun c52 => ?_)
      · refine go_iinc (v := nI (e + 1)) (L' := [_, _, _, _]) dX0_wouldFit_57 rfl (nI_1 _) (by decide) rfl rfl ?_
        refine go_goto (tgt := 2) dX0_wouldFit_60 (by decide) ?_
        refine ih (e + 1) σ3 (by omega) (by omega) ?_ o3
        unfold allB
        rw [ha, Bool.true_and]
        exact decide_eq_true c52
      · refine go_iconst (v := nI 0) dX0_wouldFit_55 rfl ?_
        refine go_zret rfl dX0_wouldFit_56 (by first | exact Or.inl rfl | exact Or.inr rfl | exact bI_01 _) ?_
        refine ⟨?_, o3⟩
        rw [show fitB P E x = false from allB_false he1 (decide_eq_false c52)]
        rfl
set_option maxHeartbeats 1000000 in
theorem sp_wouldFit {Γ : Gm} {σ : Mm} {P : Pb} {E : Ev} {x : Int32} (hS : SU σ P) (hk : Pok P) (hE : LI σ 23 (pG P) E) : Sp Γ 4 mX0_wouldFit [rf Γ 27, rf Γ 23, .int x] σ (aI (bI (fitB P E x)) (OT 36 σ)) := by
  refine sp_in (L := [some (rf Γ 27), some (rf Γ 23), some (.int x), none]) rfl (Nat.le_of_ble_eq_true rfl) rfl ?_
  refine go_iconst (v := nI 0) dX0_wouldFit_0 rfl ?_
  refine go_istore_n (L' := [_, _, _, _]) dX0_wouldFit_1 rfl (by decide) rfl rfl ?_
  exact lp_wouldFit hS hk hE E.1 0 σ rfl (Nat.zero_le _) rfl OT.rf
def ftL (fit : Nat → Bool) : Nat → Int32
  | 0 => 0
  | k + 1 => if fit k = true then ftL fit k ||| (nI 1 <<< (nI k &&& 31)) else ftL fit k
def fitsM (P : Pb) (E : Ev) : Int32 := ftL (fun k => fitB P E (nI k)) 10
set_option maxHeartbeats 1000000 in
theorem lp_fitting {Γ : Gm} {σ : Mm} {P : Pb} {E : Ev} (hS : SU σ P) (hk : Pok P) (hE : LI σ 23 (pG P) E) : ∀ (m k : Nat) (σ' : Mm), 10 - k = m → k ≤ 10 → OT 36 σ σ' → Go Γ 5 mX0_fittingLoaths (aI (fitsM P E) (OT 36 σ)) 4 [some (rf Γ 27), some (rf Γ 23), some (.int (ftL (fun k => fitB P E (nI k)) k)), some (.int (nI k))] [] σ' := by
  intro m
  induction m with
  | zero =>
    intro k σ' hm hk1 hO
    have e : k = 10 := by omega
    subst e
    refine go_iload_n dX0_fittingLoaths_4 rfl rfl ?_
    refine go_bipush (v := nI 10) dX0_fittingLoaths_5 rfl ?_
    refine go_icmp_ge (tgt := 31) dX0_fittingLoaths_7 (by decide) (fun c7 => ?_) (fun c7 => ?_)
    · refine go_iload_n dX0_fittingLoaths_31 rfl rfl ?_
      refine go_iret rfl dX0_fittingLoaths_32 ?_
      exact ⟨rfl, hO⟩
    · exact absurd (Int32.le_refl _) c7
  | succ m ih =>
    intro k σ' hm hk1 hO
    refine go_iload_n dX0_fittingLoaths_4 rfl rfl ?_
    refine go_bipush (v := nI 10) dX0_fittingLoaths_5 rfl ?_
    refine go_icmp_ge (tgt := 31) dX0_fittingLoaths_7 (by decide) (fun c7 => ?_) (fun c7 => ?_)
    · exact absurd c7 (nI_ge (by omega) (by omega))
    · refine go_aload_n dX0_fittingLoaths_10 rfl rfl ?_
      refine go_aload_n dX0_fittingLoaths_11 rfl rfl ?_
      refine go_iload_n dX0_fittingLoaths_12 rfl rfl ?_
      refine go_callVi cvX0_163 os_27 (sp_wouldFit (hS.ot hO) hk (hE.ot hO)) (by omega) rfl rfl (Nat.le_of_ble_eq_true rfl) dX0_fittingLoaths_13 (fun σ2 q2 => ?_)
      refine go_if_eq (tgt := 25) dX0_fittingLoaths_16 (by decide) (fun c16 => ?_) (fun c16 => ?_)
      · refine go_iinc (v := nI (k + 1)) (L' := [_, _, _, _]) dX0_fittingLoaths_25 rfl (nI_1 _) (by decide) rfl rfl ?_
        refine go_goto (tgt := 4) dX0_fittingLoaths_28 (by decide) ?_
        have e1 : ftL (fun k => fitB P E (nI k)) (k + 1) = ftL (fun k => fitB P E (nI k)) k := by conv => lhs; unfold ftL; rw [if_neg (by rw [bI_eq0.mp c16]; decide)]
        have := ih (k + 1) σ2 (by omega) (by omega) (hO.trans q2)
        rw [e1] at this
        exact this
      · refine go_iload_n dX0_fittingLoaths_19 rfl rfl ?_
        refine go_iconst (v := nI 1) dX0_fittingLoaths_20 rfl ?_
        refine go_iload_n dX0_fittingLoaths_21 rfl rfl ?_
        refine go_ishl dX0_fittingLoaths_22 ?_
        refine go_ior dX0_fittingLoaths_23 ?_
        refine go_istore_n (L' := [_, _, _, _]) dX0_fittingLoaths_24 rfl (by decide) rfl rfl ?_
        refine go_iinc (v := nI (k + 1)) (L' := [_, _, _, _]) dX0_fittingLoaths_25 rfl (nI_1 _) (by decide) rfl rfl ?_
        refine go_goto (tgt := 4) dX0_fittingLoaths_28 (by decide) ?_
        have e1 : ftL (fun k => fitB P E (nI k)) (k + 1) = ftL (fun k => fitB P E (nI k)) k ||| (nI 1 <<< (nI k &&& 31)) := by conv => lhs; unfold ftL; rw [if_pos (bI_ne0.mp c16)]
        have := ih (k + 1) σ2 (by omega) (by omega) (hO.trans q2)
        rw [e1] at this
        exact this
set_option maxHeartbeats 1000000 in
theorem sp_fitting {Γ : Gm} {σ : Mm} {P : Pb} {E : Ev} (hS : SU σ P) (hk : Pok P) (hE : LI σ 23 (pG P) E) : Sp Γ 5 mX0_fittingLoaths [rf Γ 27, rf Γ 23] σ (aI (fitsM P E) (OT 36 σ)) := by
  refine sp_in (L := [some (rf Γ 27), some (rf Γ 23), none, none]) rfl (Nat.le_of_ble_eq_true rfl) rfl ?_
  refine go_iconst (v := nI 0) dX0_fittingLoaths_0 rfl ?_
  refine go_istore_n (L' := [_, _, _, _]) dX0_fittingLoaths_1 rfl (by decide) rfl rfl ?_
  refine go_iconst (v := nI 0) dX0_fittingLoaths_2 rfl ?_
  refine go_istore_n (L' := [_, _, _, _]) dX0_fittingLoaths_3 rfl (by decide) rfl rfl ?_
  exact lp_fitting hS hk hE 10 0 σ rfl (by omega) OT.rf
