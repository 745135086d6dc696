/-! ===== the reference: the book ===== -/
def MR (σ : St) (l : Nat) : Prop := (0 ≤ σ.1 98 l ∧ σ.1 98 l ≤ 60) ∧ (0 ≤ σ.1 99 l ∧ σ.1 99 l ≤ 1000000) ∧ (0 ≤ σ.1 100 l ∧ σ.1 100 l ≤ 9999) ∧ (-1 ≤ σ.1 104 l ∧ σ.1 104 l < (l : Int)) ∧ (-1 ≤ σ.1 106 l ∧ σ.1 106 l < (l : Int)) ∧ (σ.1 107 l = 0 ∨ σ.1 107 l = 1)
/-- the reference's book -/
def MB (σ : St) (n : Nat) : Prop := σ.1 89 11 = (n : Int) ∧ n ≤ 30 ∧ ∀ l, l < n → MR σ l
theorem MB.cnt {σ : St} {n l : Nat} (h : MB σ n) (hl : l < n) : 0 ≤ cntM σ l ∧ cntM σ l ≤ 1009999 := by
  obtain ⟨h1, h2, h3, -⟩ := h.2.2 l hl
  unfold cntM
  omega
def MD (σ : St) (n : Nat) (D : Nat → Int) : Prop := ∀ l, l < n → (0 ≤ D l ∧ D l ≤ 5) ∧ ((σ.1 106 l = -1 ∧ D l = 0) ∨ ((0 ≤ σ.1 106 l ∧ σ.1 106 l < (l : Int)) ∧ D l = D (σ.1 106 l).toNat + 1))
def ofR (w : Int) : Nat := if w = 100 then 101 else if w = 116 then 102 else if w = 99 then 103 else if w = 103 then 104 else 105
theorem best_p {sel : Nat → Bool} {cnt : Nat → Int} {i : Nat} (h : sel i = true) (h2 : bestF sel cnt i = -1 ∨ cnt i < cnt (bestF sel cnt i).toNat) : ((i : Nat) : Int) = bestF sel cnt (i + 1) := by rw [bestF, if_pos ⟨h, h2⟩]
theorem best_q {sel : Nat → Bool} {cnt : Nat → Int} {i : Nat} (h : ¬ (sel i = true ∧ (bestF sel cnt i = -1 ∨ cnt i < cnt (bestF sel cnt i).toNat))) : bestF sel cnt i = bestF sel cnt (i + 1) := by rw [bestF, if_neg h]
def prtM (σ : St) (l : Nat) : Int := if σ.1 106 l = -1 then σ.1 98 l else unlF (inM σ l) (inM σ (σ.1 106 l).toNat) (σ.1 98 (σ.1 106 l).toNat) (σ.1 98 l).toNat
theorem unlF_b2 {a b : Nat → Int} {t : Int} : ∀ i : Nat, 0 ≤ unlF a b t i ∧ unlF a b t i ≤ i := by
  intro i
  induction i with
  | zero => exact ⟨Int.le_refl 0, Int.le_refl 0⟩
  | succ i ih => exact unl_b ih
theorem MB.prt {σ : St} {n l : Nat} (h : MB σ n) (hl : l < n) : 0 ≤ prtM σ l ∧ prtM σ l ≤ 60 := by
  obtain ⟨⟨h1, h2⟩, -⟩ := h.2.2 l hl
  unfold prtM
  split
  · exact ⟨h1, h2⟩
  · have := unlF_b2 (a := inM σ l) (b := inM σ (σ.1 106 l).toNat) (t := σ.1 98 (σ.1 106 l).toNat) (σ.1 98 l).toNat
    omega
/-- the bases met from a lap on -/
def chS (σ : St) (l : Nat) : Nat → Int
  | 0 => σ.1 106 l
  | k + 1 => if chS σ l k = -1 then -1 else σ.1 106 (chS σ l k).toNat
theorem chS_D {σ : St} {n : Nat} {D : Nat → Int} (h : MD σ n D) {l : Nat} (hl : l < n) : ∀ k : Nat, (k : Int) ≤ D l → (chS σ l k = -1 ∧ (k : Int) = D l) ∨ ((0 ≤ chS σ l k ∧ chS σ l k < (n : Int)) ∧ (k : Int) + 1 + D (chS σ l k).toNat = D l) := by
  intro k
  induction k with
  | zero =>
    intro _
    rcases (h l hl).2 with a | a
    · exact Or.inl ⟨a.1, by omega⟩
    · have e : chS σ l 0 = σ.1 106 l := rfl
      rw [e]
      exact Or.inr ⟨by omega, by omega⟩
  | succ k ih =>
    intro hk
    rcases ih (by omega) with a | ⟨a, b⟩
    · omega
    · have e : chS σ l (k + 1) = σ.1 106 (chS σ l k).toNat := by rw [chS, if_neg (by omega)]
      have hd := h (chS σ l k).toNat (by omega)
      rcases hd.2 with c | c
      · exact Or.inl ⟨by rw [e]; exact c.1, by omega⟩
      · rw [e]
        refine Or.inr ⟨by omega, by omega⟩
theorem chS_end {σ : St} {n : Nat} {D : Nat → Int} (h : MD σ n D) {l : Nat} (hl : l < n) : chS σ l (D l).toNat = -1 := by
  have hd := (h l hl).1
  rcases chS_D h hl (D l).toNat (by omega) with a | ⟨a, b⟩
  · exact a.1
  · have := (h (chS σ l (D l).toNat).toNat (by omega)).1
    omega
theorem chS_eq {σ u : St} {l : Nat} (h : u.1 106 = σ.1 106) : ∀ k, chS u l k = chS σ l k := by
  intro k
  induction k with
  | zero => show u.1 106 l = σ.1 106 l; rw [h]
  | succ k ih => rw [chS, chS, ih, h]
def rstM (σ : St) (l : Nat) (on : Int) : Prop := ∃ k : Nat, chS σ l k = on
noncomputable def rstI (σ : St) (l : Nat) (on : Int) : Int := @ite Int (rstM σ l on) (Classical.propDecidable _) 1 0
theorem rstI_eq {σ u : St} {l : Nat} {on : Int} (h : u.1 106 = σ.1 106) : rstI u l on = rstI σ l on := by
  have e : rstM u l on = rstM σ l on := by
    unfold rstM
    congr 1
    funext k
    rw [chS_eq h]
  unfold rstI
  rw [e]
theorem rstI_y {σ : St} {l : Nat} {on : Int} (h : rstM σ l on) : rstI σ l on = 1 := by unfold rstI; exact if_pos h
theorem rstI_n {σ : St} {l : Nat} {on : Int} (h : ¬ rstM σ l on) : rstI σ l on = 0 := by unfold rstI; exact if_neg h
theorem rstI_b {σ : St} {l : Nat} {on : Int} : 0 ≤ rstI σ l on ∧ rstI σ l on ≤ 1 := by
  rcases Classical.em (rstM σ l on) with h | h
  · rw [rstI_y h]; omega
  · rw [rstI_n h]; omega
/-- the first k with P -/
theorem first_of {P : Nat → Prop} : ∀ m, P m → ∃ k, k ≤ m ∧ P k ∧ ∀ j, j < k → ¬ P j := by
  intro m
  induction m using Nat.strongRecOn with
  | ind m ih =>
    intro h
    rcases Classical.em (∃ j, j < m ∧ P j) with ⟨j, hj, hp⟩ | q
    · obtain ⟨k, h1, h2, h3⟩ := ih j hj hp
      exact ⟨k, by omega, h2, h3⟩
    · exact ⟨m, Nat.le_refl m, h, fun j hj hp => q ⟨j, hj, hp⟩⟩
theorem chS_stay {σ : St} {l k : Nat} (h : chS σ l k = -1) : ∀ d, chS σ l (k + d) = -1 := by
  intro d
  induction d with
  | zero => exact h
  | succ d ih =>
    show chS σ l ((k + d) + 1) = -1
    rw [chS, if_pos ih]
theorem rst_no {σ : St} {l k : Nat} {on : Int} (h0 : 0 ≤ on) (h : chS σ l k = -1) (hm : ∀ j, j < k → ¬ (chS σ l j = -1 ∨ chS σ l j = on)) : ¬ rstM σ l on := by
  rintro ⟨j, hj⟩
  rcases Nat.lt_or_ge j k with a | a
  · exact hm j a (Or.inr hj)
  · have := chS_stay h (j - k)
    rw [show k + (j - k) = j by omega] at this
    omega
def mvM (σ : St) (a b : Int) (i : Nat) : St := (fun q => if q = 106 then (fun l => if l < i ∧ σ.1 106 l = a then b else σ.1 106 l) else σ.1 q, σ.2)
theorem mvM_0 {σ : St} {a b : Int} : mvM σ a b 0 = σ := by
  unfold mvM
  have : (fun q => if q = 106 then (fun l => if l < 0 ∧ σ.1 106 l = a then b else σ.1 106 l) else σ.1 q) = σ.1 := by
    funext q
    by_cases h : q = 106
    · subst h; funext l; simp
    · simp [h]
  rw [this]
theorem mvM_n {σ : St} {a b : Int} {i q : Nat} (h : q ≠ 106) : (mvM σ a b i).1 q = σ.1 q := by simp [mvM, h]
theorem mvM_6 {σ : St} {a b : Int} {i l : Nat} : (mvM σ a b i).1 106 l = if l < i ∧ σ.1 106 l = a then b else σ.1 106 l := by simp [mvM]
theorem mvM_s {σ : St} {a b : Int} {i : Nat} (h : σ.1 106 i = a) : sw (mvM σ a b i) 106 i b = mvM σ a b (i + 1) := by
  unfold mvM sw
  simp only
  congr 1
  funext q
  by_cases e : q = 106
  · subst e
    simp only [if_true]
    funext l
    show (if l = i then b else (if l < i ∧ σ.1 106 l = a then b else σ.1 106 l)) = (if l < i + 1 ∧ σ.1 106 l = a then b else σ.1 106 l)
    by_cases e2 : l = i
    · subst e2; rw [if_pos rfl, if_pos ⟨by omega, h⟩]
    · rw [if_neg e2]
      by_cases e3 : l < i ∧ σ.1 106 l = a
      · rw [if_pos e3, if_pos ⟨by omega, e3.2⟩]
      · rw [if_neg e3, if_neg (fun z => e3 ⟨by omega, z.2⟩)]
  · simp [e]
theorem mvM_k {σ : St} {a b : Int} {i : Nat} (h : ¬ σ.1 106 i = a) : mvM σ a b i = mvM σ a b (i + 1) := by
  unfold mvM
  congr 1
  funext q
  by_cases e : q = 106
  · subst e
    simp only [if_true]
    funext l
    by_cases e2 : l = i
    · subst e2; rw [if_neg (fun z => h z.2), if_neg (fun z => h z.2)]
    · by_cases e3 : l < i ∧ σ.1 106 l = a
      · rw [if_pos e3, if_pos ⟨by omega, e3.2⟩]
      · rw [if_neg e3, if_neg (fun z => e3 ⟨by omega, z.2⟩)]
  · simp [e]
theorem mvM_RG {σ : St} {a b : Int} {i : Nat} (h : RG σ) (hb : R32 b) : RG (mvM σ a b i) := by
  intro q l
  by_cases e : q = 106
  · subst e
    rw [mvM_6]
    split
    · exact hb
    · exact h _ _
  · rw [mvM_n e]; exact h _ _
def gbM (σ : St) (a : Nat) : St := sw (sw σ 89 0 0) 107 a 0
def skM (σ : St) (a : Nat) : St := sw (sw σ 89 0 0) 107 a 1
def rndM (σ : St) (r : Nat) (a : Int) : St := sw (sw (sw (sw σ 89 0 0) 108 r a) 89 23 (σ.1 89 23 + 1)) 89 24 1
theorem mr_0c {σ : St} {t c : Nat} {inp : Nat → Int} {v : Int} (hR : RG σ) (hv : R32 v) : MrP σ t c inp 0 (sw (sw (sw (sw (sw σ 89 0 v) 89 28 0) 89 29 0) 89 30 0) 89 31 0) := by
  have z : R32 0 := ⟨by decide, by decide⟩
  refine ⟨(((((FrM.rf hR).sw 0 (by omega) hv).sw 28 (by omega) z).sw 29 (by omega) z).sw 30 (by omega) z).sw 31 (by omega) z, ?_, ?_, ?_, ?_⟩ <;> simp [sw_get, rideM, rfF]
theorem rfF_tick2 {len : Int} {lim : Int → Int} {top pull grip : Int} {inp : Nat → Int} : ∀ k : Nat, (∀ i, i < k → ¬ (rfF len lim top pull grip inp i).2.2.2 = true) → (rfF len lim top pull grip inp k).2.2.1 = k := by
  intro k
  cases k with
  | zero => intro _; rfl
  | succ k =>
    intro h
    have h1 := h k (by omega)
    have e : ∀ r, (rsF len lim top pull grip r (inp k)).2.2.1 = r.2.2.1 + 1 := by intro r; unfold rsF; split <;> rfl
    rw [rfF, if_neg h1, e, (rfF_tick k).2 h1]
    omega

theorem tm_end {σ u : St} {t c n : Nat} {inp : Nat → Int} {z : Int} (hv : MrP σ t c inp n u) (hz : z = 100 * (sw u 89 0 0).1 89 30 - svF ((sw u 89 0 0).1 89 28 - lenM (sw u 89 0 0) t) ((sw u 89 0 0).1 89 29)) : z = tmM σ t (rideM σ t c inp n) := by
  have e1 : lenM (sw u 89 0 0) t = lenM σ t := (show lenM (sw u 89 0 0) t = lenM u t from rfl).trans (lenM_fr hv.1)
  rw [hz, e1, rd_k (by decide), rd_k (by decide), rd_k (by decide), hv.2.1, hv.2.2.1, hv.2.2.2.1]
  rfl

set_option maxRecDepth 100000 in
set_option maxHeartbeats 4000000 in
theorem m_X7_tryOut (g : Geo) (l : Launch) (hl9 : l.stackTraces = false) (σ : St) (hR : RG σ) (hTM : TM σ) (hCM : CM σ) (hPM : PM σ) (hT4 : 0 ≤ σ.1 89 1 ∧ σ.1 89 1 ≤ 4) (hC4 : 0 ≤ σ.1 89 5 ∧ σ.1 89 5 ≤ 4) (a b : Int) (ha : R32 a) (hb : R32 b) (n : Nat) (hn : σ.1 89 9 = (n : Int)) (hn60 : n ≤ 60) : Met l yX7_tryOut wsX7_tryOut ({ frames := 4, cells := 0, slots := 0, locals := 91 }) (va_Pc [.ref (ga g (89)), .int (iN (a)), .int (iN (b))] (World g σ)) (QI g (fun z u => (((0 ≤ a ∧ a < σ.1 89 1) ∧ 0 ≤ b ∧ b < σ.1 89 5) ∧ canM σ a.toNat b.toNat n ∧ z = tmM σ a.toNat (rideM σ a.toNat b.toNat (σ.1 96) n) ∧ u.1 89 0 = 0 ∧ FrM σ u) ∨ (¬ ((0 ≤ a ∧ a < σ.1 89 1) ∧ 0 ≤ b ∧ b < σ.1 89 5) ∧ u.1 89 0 = 1 ∧ FrM σ u) ∨ (((0 ≤ a ∧ a < σ.1 89 1) ∧ 0 ≤ b ∧ b < σ.1 89 5) ∧ ¬ canM σ a.toNat b.toNat n ∧ u.1 89 0 = 2 ∧ FrM σ u))) 0 0 (gA g) := by
  refine V_met hl9 (by decide) rfl (Nat.le_of_ble_eq_true rfl) ?_
  intro p9 e9 s9 m9 b9 t9 c9 X hr _
  refine V_lv (lv' := [(0, .ref (ga g (89))), (1, .int (iN (a))), (2, .int (iN (b)))]) rfl ?_
  refine V_aload_n X 0 rfl dX7_tryOut_0 rfl ?_
  refine V_iload_n X 1 rfl dX7_tryOut_1 rfl ?_
  refine V_callV_I X (na := 1) (ci := 7) (b0 := 89) (by decide) (rfl) (by decide) rfl (m_X7_isNoTrack g l hl9 σ hR a ha hT4) gX7_tryOut_X7_isNoTrack rfl rfl rfl (by decide +kernel) ⟨Nat.le_of_ble_eq_true rfl, Nat.le_of_ble_eq_true rfl⟩ rfl rfl (Nat.le_of_ble_eq_true rfl) ⟨Nat.le_of_ble_eq_true rfl, Nat.le_of_ble_eq_true rfl⟩ dX7_tryOut_2 (fun z1 u2 z1r hp3 => ?_)
  obtain ⟨hz9, hu4⟩ := hp3
  have hu4 := hu4.symm
  subst hu4
  rcases Classical.em (0 ≤ a ∧ a < σ.1 89 1) with hT | hT
  · skip
    rw [if_pos hT] at hz9
    subst hz9
    refine V_if_ne X 16 ⟨by decide, by decide⟩ dX7_tryOut_5 (by decide) (fun h => absurd h (by first | decide | omega)) (fun _ => ?_)
    refine V_aload_n X 0 rfl dX7_tryOut_8 rfl ?_
    refine V_iload_n X 2 rfl dX7_tryOut_9 rfl ?_
    refine V_callV_I X (na := 1) (ci := 7) (b0 := 89) (by decide) (rfl) (by decide) rfl (m_X7_isNoCar g l hl9 σ hR b hb hC4) gX7_tryOut_X7_isNoCar rfl rfl rfl (by decide +kernel) ⟨Nat.le_of_ble_eq_true rfl, Nat.le_of_ble_eq_true rfl⟩ rfl rfl (Nat.le_of_ble_eq_true rfl) ⟨Nat.le_of_ble_eq_true rfl, Nat.le_of_ble_eq_true rfl⟩ dX7_tryOut_10 (fun z5 u6 z5r hp7 => ?_)
    obtain ⟨hz9, hu8⟩ := hp7
    have hu8 := hu8.symm
    subst hu8
    rcases Classical.em (0 ≤ b ∧ b < σ.1 89 5) with hC | hC
    · skip
      rw [if_pos hC] at hz9
      subst hz9
      refine V_if_eq X 20 ⟨by decide, by decide⟩ dX7_tryOut_13 (by decide) (fun _ => ?_) (fun h => absurd h (by first | decide | omega))
      refine V_aload_n X 0 rfl dX7_tryOut_20 rfl ?_
      refine V_iload_n X 1 rfl dX7_tryOut_21 rfl ?_
      refine V_iload_n X 2 rfl dX7_tryOut_22 rfl ?_
      refine V_callV_I X (na := 2) (ci := 7) (b0 := 89) (by decide) (rfl) (by decide) rfl (m_X7_canDrive g l hl9 σ hR hTM hCM a b (by omega) (by omega) n hn hn60) gX7_tryOut_X7_canDrive rfl rfl rfl (by decide +kernel) ⟨Nat.le_of_ble_eq_true rfl, Nat.le_of_ble_eq_true rfl⟩ rfl rfl (Nat.le_of_ble_eq_true rfl) ⟨Nat.le_of_ble_eq_true rfl, Nat.le_of_ble_eq_true rfl⟩ dX7_tryOut_23 (fun z9 u10 z9r hp11 => ?_)
      obtain ⟨hf, hcv⟩ := hp11
      rcases hcv with ⟨hq, hcm, hv⟩ | ⟨hq, hcm⟩
      · skip
        subst hq
        refine V_if_ne X 33 ⟨by decide, by decide⟩ dX7_tryOut_26 (by decide) (fun _ => ?_) (fun h => absurd h (by first | decide | omega))
        refine V_iconst X dX7_tryOut_33 ?_
        refine V_istore_n X [(3, .int (iN (0))), (0, .ref (ga g (89))), (1, .int (iN (a))), (2, .int (iN (b)))] dX7_tryOut_34 rfl (by decide) rfl ?_
        refine V_aload_n X 1 rfl dX7_tryOut_35 rfl ?_
        refine V_iload_n X 0 rfl dX7_tryOut_36 rfl ?_
        refine V_callV_I X (na := 1) (ci := 7) (b0 := 89) (by decide) (rfl) (by decide) rfl (m_X7_fails g l hl9 u10 hf.2.2.2 0 ⟨by decide, by decide⟩) gX7_tryOut_X7_fails rfl rfl rfl (by decide +kernel) ⟨Nat.le_of_ble_eq_true rfl, Nat.le_of_ble_eq_true rfl⟩ rfl rfl (Nat.le_of_ble_eq_true rfl) ⟨Nat.le_of_ble_eq_true rfl, Nat.le_of_ble_eq_true rfl⟩ dX7_tryOut_37 (fun z12 u13 z12r hp14 => ?_)
        obtain ⟨hz9, hu15⟩ := hp14
        have hu15 := hu15.symm
        subst hu15
        rw [if_neg (by decide)] at hz9
        subst hz9
        refine V_if_eq X 47 ⟨by decide, by decide⟩ dX7_tryOut_40 (by decide) (fun _ => ?_) (fun h => absurd h (by first | decide | omega))
        refine V_aload_n X 1 rfl dX7_tryOut_47 rfl ?_
        refine V_iload_n X 2 rfl dX7_tryOut_48 rfl ?_
        have hbd := mr_b hCM (by omega) hv
        have hov := (rfF_ov (hPM a.toNat (by omega) hcm.1) n).1 hcm.2
        have hv2 := hv.2
        have hlf := lenM_fr (t := a.toNat) hf
        have ho1 : lenM σ a.toNat ≤ u10.1 89 28 := hv2.1 ▸ hov.1
        have ho2 : 0 < u10.1 89 29 := hv2.2.1 ▸ hov.2
        refine V_callV_I X (na := 1) (ci := 7) (b0 := 89) (by decide) (rfl) (by decide) rfl (m_X7_timeNow g l hl9 (sw u10 89 0 0) (hf.2.2.2.sw _ _ ⟨by decide, by decide⟩) (TM.code (hTM.fr hf)) a (by omega) (by show lenM u10 a.toNat ≤ u10.1 89 28; omega) (by show u10.1 89 28 ≤ 9000; omega) ho2 hbd.2.2.2.1 hbd.2.2.2.2.1 (by show u10.1 89 30 ≤ 1000; omega)) gX7_tryOut_X7_timeNow rfl rfl rfl (by decide +kernel) ⟨Nat.le_of_ble_eq_true rfl, Nat.le_of_ble_eq_true rfl⟩ rfl rfl (Nat.le_of_ble_eq_true rfl) ⟨Nat.le_of_ble_eq_true rfl, Nat.le_of_ble_eq_true rfl⟩ dX7_tryOut_49 (fun z16 u17 z16r hp18 => ?_)
        obtain ⟨hz, hu19⟩ := hp18
        have hu19 := hu19.symm
        subst hu19
        exact V_iret X hr rfl z16r (by exact Or.inl ⟨⟨hT, hC⟩, hcm, tm_end hv hz, rfl, hf.sw 0 (by omega) ⟨by decide, by decide⟩⟩) dX7_tryOut_52 (by decide) (by decide)
      · skip
        subst hq
        refine V_if_ne X 33 ⟨by decide, by decide⟩ dX7_tryOut_26 (by decide) (fun h => absurd h (by first | decide | omega)) (fun _ => ?_)
        refine V_iconst X dX7_tryOut_29 ?_
        refine V_goto X 34 dX7_tryOut_30 (by decide) ?_
        refine V_istore_n X [(3, .int (iN (2))), (0, .ref (ga g (89))), (1, .int (iN (a))), (2, .int (iN (b)))] dX7_tryOut_34 rfl (by decide) rfl ?_
        refine V_aload_n X 1 rfl dX7_tryOut_35 rfl ?_
        refine V_iload_n X 0 rfl dX7_tryOut_36 rfl ?_
        refine V_callV_I X (na := 1) (ci := 7) (b0 := 89) (by decide) (rfl) (by decide) rfl (m_X7_fails g l hl9 u10 hf.2.2.2 2 ⟨by decide, by decide⟩) gX7_tryOut_X7_fails rfl rfl rfl (by decide +kernel) ⟨Nat.le_of_ble_eq_true rfl, Nat.le_of_ble_eq_true rfl⟩ rfl rfl (Nat.le_of_ble_eq_true rfl) ⟨Nat.le_of_ble_eq_true rfl, Nat.le_of_ble_eq_true rfl⟩ dX7_tryOut_37 (fun z20 u21 z20r hp22 => ?_)
        obtain ⟨hz9, hu23⟩ := hp22
        have hu23 := hu23.symm
        subst hu23
        rw [if_pos (by decide)] at hz9
        subst hz9
        refine V_if_eq X 47 ⟨by decide, by decide⟩ dX7_tryOut_40 (by decide) (fun h => absurd h (by first | decide | omega)) (fun _ => ?_)
        refine V_iconst X dX7_tryOut_43 ?_
        refine V_goto X 52 dX7_tryOut_44 (by decide) ?_
        exact V_iret X hr rfl ⟨by decide, by decide⟩ (by exact Or.inr (Or.inr ⟨⟨hT, hC⟩, hcm, rfl, hf.sw 0 (by omega) ⟨by decide, by decide⟩⟩)) dX7_tryOut_52 (by decide) (by decide)
    · skip
      rw [if_neg hC] at hz9
      subst hz9
      refine V_if_eq X 20 ⟨by decide, by decide⟩ dX7_tryOut_13 (by decide) (fun h => absurd h (by first | decide | omega)) (fun _ => ?_)
      refine V_iconst X dX7_tryOut_16 ?_
      refine V_goto X 34 dX7_tryOut_17 (by decide) ?_
      refine V_istore_n X [(3, .int (iN (1))), (0, .ref (ga g (89))), (1, .int (iN (a))), (2, .int (iN (b)))] dX7_tryOut_34 rfl (by decide) rfl ?_
      refine V_aload_n X 1 rfl dX7_tryOut_35 rfl ?_
      refine V_iload_n X 0 rfl dX7_tryOut_36 rfl ?_
      refine V_callV_I X (na := 1) (ci := 7) (b0 := 89) (by decide) (rfl) (by decide) rfl (m_X7_fails g l hl9 σ hR 1 ⟨by decide, by decide⟩) gX7_tryOut_X7_fails rfl rfl rfl (by decide +kernel) ⟨Nat.le_of_ble_eq_true rfl, Nat.le_of_ble_eq_true rfl⟩ rfl rfl (Nat.le_of_ble_eq_true rfl) ⟨Nat.le_of_ble_eq_true rfl, Nat.le_of_ble_eq_true rfl⟩ dX7_tryOut_37 (fun z24 u25 z24r hp26 => ?_)
      obtain ⟨hz9, hu27⟩ := hp26
      have hu27 := hu27.symm
      subst hu27
      rw [if_pos (by decide)] at hz9
      subst hz9
      refine V_if_eq X 47 ⟨by decide, by decide⟩ dX7_tryOut_40 (by decide) (fun h => absurd h (by first | decide | omega)) (fun _ => ?_)
      refine V_iconst X dX7_tryOut_43 ?_
      refine V_goto X 52 dX7_tryOut_44 (by decide) ?_
      exact V_iret X hr rfl ⟨by decide, by decide⟩ (by exact Or.inr (Or.inl ⟨by omega, rfl, (FrM.rf hR).sw 0 (by omega) ⟨by decide, by decide⟩⟩)) dX7_tryOut_52 (by decide) (by decide)
  · skip
    rw [if_neg hT] at hz9
    subst hz9
    refine V_if_ne X 16 ⟨by decide, by decide⟩ dX7_tryOut_5 (by decide) (fun _ => ?_) (fun h => absurd h (by first | decide | omega))
    refine V_iconst X dX7_tryOut_16 ?_
    refine V_goto X 34 dX7_tryOut_17 (by decide) ?_
    refine V_istore_n X [(3, .int (iN (1))), (0, .ref (ga g (89))), (1, .int (iN (a))), (2, .int (iN (b)))] dX7_tryOut_34 rfl (by decide) rfl ?_
    refine V_aload_n X 1 rfl dX7_tryOut_35 rfl ?_
    refine V_iload_n X 0 rfl dX7_tryOut_36 rfl ?_
    refine V_callV_I X (na := 1) (ci := 7) (b0 := 89) (by decide) (rfl) (by decide) rfl (m_X7_fails g l hl9 σ hR 1 ⟨by decide, by decide⟩) gX7_tryOut_X7_fails rfl rfl rfl (by decide +kernel) ⟨Nat.le_of_ble_eq_true rfl, Nat.le_of_ble_eq_true rfl⟩ rfl rfl (Nat.le_of_ble_eq_true rfl) ⟨Nat.le_of_ble_eq_true rfl, Nat.le_of_ble_eq_true rfl⟩ dX7_tryOut_37 (fun z28 u29 z28r hp30 => ?_)
    obtain ⟨hz9, hu31⟩ := hp30
    have hu31 := hu31.symm
    subst hu31
    rw [if_pos (by decide)] at hz9
    subst hz9
    refine V_if_eq X 47 ⟨by decide, by decide⟩ dX7_tryOut_40 (by decide) (fun h => absurd h (by first | decide | omega)) (fun _ => ?_)
    refine V_iconst X dX7_tryOut_43 ?_
    refine V_goto X 52 dX7_tryOut_44 (by decide) ?_
    exact V_iret X hr rfl ⟨by decide, by decide⟩ (by exact Or.inr (Or.inl ⟨by omega, rfl, (FrM.rf hR).sw 0 (by omega) ⟨by decide, by decide⟩⟩)) dX7_tryOut_52 (by decide) (by decide)
set_option maxRecDepth 100000 in
set_option maxHeartbeats 4000000 in
theorem m_X7_replay (g : Geo) (l : Launch) (hl9 : l.stackTraces = false) (σ : St) (hR : RG σ) (hTM : TM σ) (hCM : CM σ) (n : Nat) (hMB : MB σ n) (a k w : Int) (ha : R32 a) (hk : R32 k) (hw : R32 w) (hnoA : ∀ l, l < n → ∀ i : Nat, (i : Int) < σ.1 98 l → ¬ (rideM σ (σ.1 102 l).toNat (σ.1 103 l).toNat (inM σ l) i).2.2.2 = true) (hlt : ∀ l, l < n → (0 ≤ σ.1 102 l ∧ σ.1 102 l < 4) ∧ 0 ≤ σ.1 103 l ∧ σ.1 103 l < 4) : Met l yX7_replay wsX7_replay ({ frames := 2, cells := 0, slots := 0, locals := 47 }) (va_Pc [.ref (ga g (89)), .int (iN (a)), .int (iN (k)), .int (iN (w))] (World g σ)) (QI g (fun z u => ((0 ≤ a ∧ a < σ.1 89 11) ∧ (0 ≤ k ∧ k ≤ σ.1 98 a.toNat) ∧ z = (if w = 0 then (rideM σ (σ.1 102 a.toNat).toNat (σ.1 103 a.toNat).toNat (inM σ a.toNat) k.toNat).1 else (rideM σ (σ.1 102 a.toNat).toNat (σ.1 103 a.toNat).toNat (inM σ a.toNat) k.toNat).2.1) ∧ u.1 89 0 = 0 ∧ FrM σ u) ∨ (¬ (0 ≤ a ∧ a < σ.1 89 11) ∧ u.1 89 0 = 1 ∧ FrM σ u) ∨ ((0 ≤ a ∧ a < σ.1 89 11) ∧ ¬ (0 ≤ k ∧ k ≤ σ.1 98 a.toNat) ∧ u.1 89 0 = 2 ∧ FrM σ u))) 0 0 (gA g) := by
  refine V_met hl9 (by decide) rfl (Nat.le_of_ble_eq_true rfl) ?_
  intro p9 e9 s9 m9 b9 t9 c9 X hr _
  have hn := hMB.1
  have hn30 := hMB.2.1
  have hL4 : 0 ≤ σ.1 89 11 ∧ σ.1 89 11 ≤ 30 := by omega
  refine V_lv (lv' := [(0, .ref (ga g (89))), (1, .int (iN (a))), (2, .int (iN (k))), (3, .int (iN (w)))]) rfl ?_
  refine V_aload_n X 0 rfl dX7_replay_0 rfl ?_
  refine V_aload_n X 0 rfl dX7_replay_1 rfl ?_
  refine V_iload_n X 1 rfl dX7_replay_2 rfl ?_
  refine V_callV_I X (na := 1) (ci := 7) (b0 := 89) (by decide) (rfl) (by decide) rfl (m_X7_isNoLap g l hl9 σ hR a ha hL4) gX7_replay_X7_isNoLap rfl rfl rfl (by decide +kernel) ⟨Nat.le_of_ble_eq_true rfl, Nat.le_of_ble_eq_true rfl⟩ rfl rfl (Nat.le_of_ble_eq_true rfl) ⟨Nat.le_of_ble_eq_true rfl, Nat.le_of_ble_eq_true rfl⟩ dX7_replay_3 (fun z1 u2 z1r hp3 => ?_)
  obtain ⟨hz9, hu4⟩ := hp3
  have hu4 := hu4.symm
  subst hu4
  rcases Classical.em (0 ≤ a ∧ a < σ.1 89 11) with hL | hL
  · skip
    rw [if_pos hL] at hz9
    subst hz9
    refine V_if_eq X 13 ⟨by decide, by decide⟩ dX7_replay_6 (by decide) (fun _ => ?_) (fun h => absurd h (by first | decide | omega))
    refine V_iload_n X 2 rfl dX7_replay_13 rfl ?_
    refine V_iconst X dX7_replay_14 ?_
    refine V_aload_n X 0 rfl dX7_replay_15 rfl ?_
    refine V_get X (ci := 7) (89) (by decide) (rfl) (by decide) rfl (fun _ h => List.mem_cons_of_mem _ (List.mem_append_right _ h)) 13 (by decide) (List.mem_of_getElem? (i := 1) rfl) rfl rfl dX7_replay_16 ?_
    refine V_iload_n X 1 rfl dX7_replay_19 rfl ?_
    have htt := hMB.2.2 a.toNat (by omega)
    have htk := htt.1
    refine V_iald X (N := 30) (98) (by decide) (rfl) (rfl) (by decide) (a.toNat) (by omega) (by omega) dX7_replay_20 ?_
    refine V_callS_I X (na := 3) (m_X7_in g l hl9 σ k 0 (σ.1 98 a.toNat) hk ⟨by decide, by decide⟩ (hR _ _)) gX7_replay_X7_in rfl rfl rfl (by decide +kernel) ⟨Nat.le_of_ble_eq_true rfl, Nat.le_of_ble_eq_true rfl⟩ rfl rfl (Nat.le_of_ble_eq_true rfl) ⟨Nat.le_of_ble_eq_true rfl, Nat.le_of_ble_eq_true rfl⟩ dX7_replay_21 (fun z5 u6 z5r hp7 => ?_)
    obtain ⟨hz9, hu8⟩ := hp7
    have hu8 := hu8.symm
    subst hu8
    rcases Classical.em (0 ≤ k ∧ k ≤ σ.1 98 a.toNat) with hK | hK
    · skip
      rw [if_pos hK] at hz9
      subst hz9
      refine V_if_ne X 31 ⟨by decide, by decide⟩ dX7_replay_24 (by decide) (fun _ => ?_) (fun h => absurd h (by first | decide | omega))
      refine V_iconst X dX7_replay_31 ?_
      refine V_callV_I X (na := 1) (ci := 7) (b0 := 89) (by decide) (rfl) (by decide) rfl (m_X7_fails g l hl9 σ hR 0 ⟨by decide, by decide⟩) gX7_replay_X7_fails rfl rfl rfl (by decide +kernel) ⟨Nat.le_of_ble_eq_true rfl, Nat.le_of_ble_eq_true rfl⟩ rfl rfl (Nat.le_of_ble_eq_true rfl) ⟨Nat.le_of_ble_eq_true rfl, Nat.le_of_ble_eq_true rfl⟩ dX7_replay_32 (fun z9 u10 z9r hp11 => ?_)
      obtain ⟨hz9, hu12⟩ := hp11
      have hu12 := hu12.symm
      subst hu12
      rw [if_neg (by decide)] at hz9
      subst hz9
      refine V_if_eq X 40 ⟨by decide, by decide⟩ dX7_replay_35 (by decide) (fun _ => ?_) (fun h => absurd h (by first | decide | omega))
      have htr := hlt a.toNat (by omega)
      have hno := hnoA a.toNat (by omega)
      refine V_aload_n X 0 rfl dX7_replay_40 rfl ?_
      refine V_callV_V X (na := 0) (ci := 7) (b0 := 89) (by decide) (rfl) (by decide) rfl (m_X7_starts g l hl9 (sw σ 89 0 0) (hR.sw _ _ ⟨by decide, by decide⟩)) gX7_replay_X7_starts rfl rfl rfl (by decide +kernel) ⟨Nat.le_of_ble_eq_true rfl, Nat.le_of_ble_eq_true rfl⟩ rfl rfl (Nat.le_of_ble_eq_true rfl) ⟨Nat.le_of_ble_eq_true rfl, Nat.le_of_ble_eq_true rfl⟩ dX7_replay_41 (fun u14 hp15 => ?_)
      subst hp15
      refine V_sub (lv' := [(0, .ref (ga g (89))), (1, .int (iN (a))), (2, .int (iN (k))), (3, .int (iN (w)))]) [0, 1, 2, 3] rfl ?_
      refine V_up (N := k.toNat) (fun (i : Nat) (u : St) (lw : List (Nat × Value)) => True ∧ [(0, .ref (ga g (89))), (1, .int (iN (a))), (2, .int (iN (k))), (3, .int (iN (w)))] = lw ∧ (MrP σ (σ.1 102 a.toNat).toNat (σ.1 103 a.toNat).toNat (inM σ a.toNat) i u ∧ u.1 89 0 = 0)) (i0 := 0) (Nat.zero_le _) ⟨trivial, rfl, ⟨mr_0c hR ⟨by decide, by decide⟩, rfl⟩⟩ ?_ ?_
      · skip
        rintro u1 _ ⟨-, rfl, ⟨hv, hcd⟩⟩
        have hti : u1.1 89 30 = ((k.toNat : Nat) : Int) := hv.2.2.2.1.trans (rfF_tick2 k.toNat (fun i hi => hno i (by omega)))
        refine V_aload_n X 0 rfl dX7_replay_44 rfl ?_
        refine V_get X (ci := 7) (89) (by decide) (rfl) (by decide) rfl (fun _ h => List.mem_cons_of_mem _ (List.mem_append_right _ h)) 30 (by decide) (List.mem_of_getElem? (i := 2) rfl) rfl rfl dX7_replay_45 ?_
        refine V_iload_n X 2 rfl dX7_replay_48 rfl ?_
        refine V_icmp_ge X 85 (hv.rg _ _) hk dX7_replay_49 (by decide) (fun _ => ?_) (fun h => absurd h (by omega))
        refine V_iload_n X 3 rfl dX7_replay_85 rfl ?_
        refine V_if_eq X 96 hw dX7_replay_86 (by decide) (fun q16 => ?_) (fun q16 => ?_)
        · skip
          refine V_aload_n X 0 rfl dX7_replay_96 rfl ?_
          refine V_get X (ci := 7) (89) (by decide) (rfl) (by decide) rfl (fun _ h => List.mem_cons_of_mem _ (List.mem_append_right _ h)) 28 (by decide) (List.mem_of_getElem? (i := 7) rfl) rfl rfl dX7_replay_97 ?_
          exact V_iret X hr rfl (hv.rg _ _) (by exact Or.inl ⟨hL, hK, by rw [if_pos (by omega)]; exact hv.2.1, hcd, hv.1⟩) dX7_replay_100 (by decide) (by decide)
        · skip
          refine V_aload_n X 0 rfl dX7_replay_89 rfl ?_
          refine V_get X (ci := 7) (89) (by decide) (rfl) (by decide) rfl (fun _ h => List.mem_cons_of_mem _ (List.mem_append_right _ h)) 29 (by decide) (List.mem_of_getElem? (i := 6) rfl) rfl rfl dX7_replay_90 ?_
          refine V_goto X 100 dX7_replay_93 (by decide) ?_
          exact V_iret X hr rfl (hv.rg _ _) (by exact Or.inl ⟨hL, hK, by rw [if_neg (by omega)]; exact hv.2.2.1, hcd, hv.1⟩) dX7_replay_100 (by decide) (by decide)
      · skip
        rintro i u1 _ hiN ⟨-, rfl, ⟨hv, hcd⟩⟩ kk
        have hbd := mr_b hCM (by omega) hv
        have hnov := hno i (by omega)
        have hti := mr_tick hv hnov
        refine V_aload_n X 0 rfl dX7_replay_44 rfl ?_
        refine V_get X (ci := 7) (89) (by decide) (rfl) (by decide) rfl (fun _ h => List.mem_cons_of_mem _ (List.mem_append_right _ h)) 30 (by decide) (List.mem_of_getElem? (i := 2) rfl) rfl rfl dX7_replay_45 ?_
        refine V_iload_n X 2 rfl dX7_replay_48 rfl ?_
        refine V_icmp_ge X 85 (hv.rg _ _) hk dX7_replay_49 (by decide) (fun h => absurd h (by omega)) (fun _ => ?_)
        refine V_aload_n X 0 rfl dX7_replay_52 rfl ?_
        refine V_aload_n X 0 rfl dX7_replay_53 rfl ?_
        refine V_get X (ci := 7) (89) (by decide) (rfl) (by decide) rfl (fun _ h => List.mem_cons_of_mem _ (List.mem_append_right _ h)) 17 (by decide) (List.mem_of_getElem? (i := 3) rfl) rfl rfl dX7_replay_54 ?_
        refine V_iload_n X 1 rfl dX7_replay_57 rfl ?_
        refine V_iald X (N := 30) (102) (by decide) (rfl) (rfl) (by decide) (a.toNat) (by omega) (by omega) dX7_replay_58 ?_
        refine V_top (b := σ.1 102 a.toNat) (by rw [hv.1.1 102 (by decide) (by decide)]) ?_
        refine V_aload_n X 0 rfl dX7_replay_59 rfl ?_
        refine V_get X (ci := 7) (89) (by decide) (rfl) (by decide) rfl (fun _ h => List.mem_cons_of_mem _ (List.mem_append_right _ h)) 18 (by decide) (List.mem_of_getElem? (i := 4) rfl) rfl rfl dX7_replay_60 ?_
        refine V_iload_n X 1 rfl dX7_replay_63 rfl ?_
        refine V_iald X (N := 30) (103) (by decide) (rfl) (rfl) (by decide) (a.toNat) (by omega) (by omega) dX7_replay_64 ?_
        refine V_top (b := σ.1 103 a.toNat) (by rw [hv.1.1 103 (by decide) (by decide)]) ?_
        refine V_aload_n X 0 rfl dX7_replay_65 rfl ?_
        refine V_get X (ci := 7) (89) (by decide) (rfl) (by decide) rfl (fun _ h => List.mem_cons_of_mem _ (List.mem_append_right _ h)) 12 (by decide) (List.mem_of_getElem? (i := 5) rfl) rfl rfl dX7_replay_66 ?_
        refine V_bipush X (by decide) dX7_replay_69 ?_
        refine V_iload_n X 1 rfl dX7_replay_71 rfl ?_
        refine V_imul X dX7_replay_72 ?_
        refine V_aload_n X 0 rfl dX7_replay_73 rfl ?_
        refine V_get X (ci := 7) (89) (by decide) (rfl) (by decide) rfl (fun _ h => List.mem_cons_of_mem _ (List.mem_append_right _ h)) 30 (by decide) (List.mem_of_getElem? (i := 2) rfl) rfl rfl dX7_replay_74 ?_
        refine V_iadd X dX7_replay_77 ?_
        refine V_top (b := 60 * a + (i : Int)) (by omega) ?_
        refine V_cald X (N := 1800) (97) (by decide) (rfl) (rfl) (by decide) (60 * a.toNat + i) (by omega) (by omega) dX7_replay_78 ?_
        refine V_top (b := inM σ a.toNat i) (by rw [hv.1.1 97 (by decide) (by decide)]; rfl) ?_
        refine V_callV_V X (na := 3) (ci := 7) (b0 := 89) (by decide) (rfl) (by decide) rfl (m_X7_goes g l hl9 u1 hv.rg (hTM.fr hv.1) (hCM.fr hv.1) (σ.1 102 a.toNat) (σ.1 103 a.toNat) (inM σ a.toNat i) htr.1 htr.2 (hR _ _) hbd.1 (by omega) hbd.2.2.1 hbd.2.2.2.1 hbd.2.2.2.2.1 (by omega)) gX7_replay_X7_goes rfl rfl rfl (by decide +kernel) ⟨Nat.le_of_ble_eq_true rfl, Nat.le_of_ble_eq_true rfl⟩ rfl rfl (Nat.le_of_ble_eq_true rfl) ⟨Nat.le_of_ble_eq_true rfl, Nat.le_of_ble_eq_true rfl⟩ dX7_replay_79 (fun u18 hp19 => ?_)
        have hv2 := And.intro (mr_step hv hnov hp19.1) (hp19.2.trans hcd)
        refine V_goto X 44 dX7_replay_82 (by decide) ?_
        refine V_sub (lv' := [(0, .ref (ga g (89))), (1, .int (iN (a))), (2, .int (iN (k))), (3, .int (iN (w)))]) [0, 1, 2, 3] rfl ?_
        exact kk _ _ ⟨trivial, rfl, hv2⟩
    · skip
      rw [if_neg hK] at hz9
      subst hz9
      refine V_if_ne X 31 ⟨by decide, by decide⟩ dX7_replay_24 (by decide) (fun h => absurd h (by first | decide | omega)) (fun _ => ?_)
      refine V_iconst X dX7_replay_27 ?_
      refine V_goto X 32 dX7_replay_28 (by decide) ?_
      refine V_callV_I X (na := 1) (ci := 7) (b0 := 89) (by decide) (rfl) (by decide) rfl (m_X7_fails g l hl9 σ hR 2 ⟨by decide, by decide⟩) gX7_replay_X7_fails rfl rfl rfl (by decide +kernel) ⟨Nat.le_of_ble_eq_true rfl, Nat.le_of_ble_eq_true rfl⟩ rfl rfl (Nat.le_of_ble_eq_true rfl) ⟨Nat.le_of_ble_eq_true rfl, Nat.le_of_ble_eq_true rfl⟩ dX7_replay_32 (fun z20 u21 z20r hp22 => ?_)
      obtain ⟨hz9, hu23⟩ := hp22
      have hu23 := hu23.symm
      subst hu23
      rw [if_pos (by decide)] at hz9
      subst hz9
      refine V_if_eq X 40 ⟨by decide, by decide⟩ dX7_replay_35 (by decide) (fun h => absurd h (by first | decide | omega)) (fun _ => ?_)
      refine V_iconst X dX7_replay_38 ?_
      exact V_iret X hr rfl ⟨by decide, by decide⟩ (by exact Or.inr (Or.inr ⟨hL, hK, rfl, (FrM.rf hR).sw 0 (by omega) ⟨by decide, by decide⟩⟩)) dX7_replay_39 (by decide) (by decide)
  · skip
    rw [if_neg hL] at hz9
    subst hz9
    refine V_if_eq X 13 ⟨by decide, by decide⟩ dX7_replay_6 (by decide) (fun h => absurd h (by first | decide | omega)) (fun _ => ?_)
    refine V_iconst X dX7_replay_9 ?_
    refine V_goto X 32 dX7_replay_10 (by decide) ?_
    refine V_callV_I X (na := 1) (ci := 7) (b0 := 89) (by decide) (rfl) (by decide) rfl (m_X7_fails g l hl9 σ hR 1 ⟨by decide, by decide⟩) gX7_replay_X7_fails rfl rfl rfl (by decide +kernel) ⟨Nat.le_of_ble_eq_true rfl, Nat.le_of_ble_eq_true rfl⟩ rfl rfl (Nat.le_of_ble_eq_true rfl) ⟨Nat.le_of_ble_eq_true rfl, Nat.le_of_ble_eq_true rfl⟩ dX7_replay_32 (fun z24 u25 z24r hp26 => ?_)
    obtain ⟨hz9, hu27⟩ := hp26
    have hu27 := hu27.symm
    subst hu27
    rw [if_pos (by decide)] at hz9
    subst hz9
    refine V_if_eq X 40 ⟨by decide, by decide⟩ dX7_replay_35 (by decide) (fun h => absurd h (by first | decide | omega)) (fun _ => ?_)
    refine V_iconst X dX7_replay_38 ?_
    exact V_iret X hr rfl ⟨by decide, by decide⟩ (by exact Or.inr (Or.inl ⟨hL, rfl, (FrM.rf hR).sw 0 (by omega) ⟨by decide, by decide⟩⟩)) dX7_replay_39 (by decide) (by decide)
set_option maxRecDepth 100000 in
set_option maxHeartbeats 4000000 in
theorem m_X7_of (g : Geo) (l : Launch) (hl9 : l.stackTraces = false) (σ : St) (hR : RG σ) (n : Nat) (hMB : MB σ n) (a w : Int) (ha : R32 a) (hw : R32 w) : Met l yX7_of wsX7_of ({ frames := 2, cells := 0, slots := 0, locals := 43 }) (va_Pc [.ref (ga g (89)), .int (iN (a)), .int (iN (w))] (World g σ)) (QI g (fun z u => ((0 ≤ a ∧ a < σ.1 89 11) ∧ ofV w ∧ z = σ.1 (ofR w) a.toNat ∧ u = sw σ 89 0 0) ∨ (¬ (0 ≤ a ∧ a < σ.1 89 11) ∧ u = sw σ 89 0 1) ∨ ((0 ≤ a ∧ a < σ.1 89 11) ∧ ¬ ofV w ∧ u = sw σ 89 0 2))) 0 0 (gA g) := by
  refine V_met hl9 (by decide) rfl (Nat.le_of_ble_eq_true rfl) ?_
  intro p9 e9 s9 m9 b9 t9 c9 X hr _
  have hn := hMB.1
  have hn30 := hMB.2.1
  have hL4 : 0 ≤ σ.1 89 11 ∧ σ.1 89 11 ≤ 30 := by omega
  refine V_lv (lv' := [(0, .ref (ga g (89))), (1, .int (iN (a))), (2, .int (iN (w)))]) rfl ?_
  refine V_iload_n X 2 rfl dX7_of_0 rfl ?_
  refine V_bipush X (by decide) dX7_of_1 ?_
  refine V_icmp_eq X 30 hw ⟨by decide, by decide⟩ dX7_of_3 (by decide) (fun q1 => ?_) (fun q1 => ?_)
  · skip
    refine V_iconst X dX7_of_30 ?_
    refine V_goto X 35 dX7_of_31 (by decide) ?_
    refine V_istore_n X [(3, .int (iN (1))), (0, .ref (ga g (89))), (1, .int (iN (a))), (2, .int (iN (w)))] dX7_of_35 rfl (by decide) rfl ?_
    refine V_aload_n X 1 rfl dX7_of_36 rfl ?_
    refine V_aload_n X 1 rfl dX7_of_37 rfl ?_
    refine V_iload_n X 2 rfl dX7_of_38 rfl ?_
    refine V_callV_I X (na := 1) (ci := 7) (b0 := 89) (by decide) (rfl) (by decide) rfl (m_X7_isNoLap g l hl9 σ hR a ha hL4) gX7_of_X7_isNoLap rfl rfl rfl (by decide +kernel) ⟨Nat.le_of_ble_eq_true rfl, Nat.le_of_ble_eq_true rfl⟩ rfl rfl (Nat.le_of_ble_eq_true rfl) ⟨Nat.le_of_ble_eq_true rfl, Nat.le_of_ble_eq_true rfl⟩ dX7_of_39 (fun z2 u3 z2r hp4 => ?_)
    obtain ⟨hz9, hu5⟩ := hp4
    have hu5 := hu5.symm
    subst hu5
    rcases Classical.em (0 ≤ a ∧ a < σ.1 89 11) with hL | hL
    · skip
      rw [if_pos hL] at hz9
      subst hz9
      refine V_if_eq X 49 ⟨by decide, by decide⟩ dX7_of_42 (by decide) (fun _ => ?_) (fun h => absurd h (by first | decide | omega))
      refine V_iload_n X 0 rfl dX7_of_49 rfl ?_
      refine V_if_ne X 57 ⟨by decide, by decide⟩ dX7_of_50 (by decide) (fun _ => ?_) (fun h => absurd h (by first | decide | omega))
      refine V_iconst X dX7_of_57 ?_
      refine V_callV_I X (na := 1) (ci := 7) (b0 := 89) (by decide) (rfl) (by decide) rfl (m_X7_fails g l hl9 σ hR 0 ⟨by decide, by decide⟩) gX7_of_X7_fails rfl rfl rfl (by decide +kernel) ⟨Nat.le_of_ble_eq_true rfl, Nat.le_of_ble_eq_true rfl⟩ rfl rfl (Nat.le_of_ble_eq_true rfl) ⟨Nat.le_of_ble_eq_true rfl, Nat.le_of_ble_eq_true rfl⟩ dX7_of_58 (fun z6 u7 z6r hp8 => ?_)
      obtain ⟨hz9, hu9⟩ := hp8
      have hu9 := hu9.symm
      subst hu9
      rw [if_neg (by decide)] at hz9
      subst hz9
      refine V_if_eq X 66 ⟨by decide, by decide⟩ dX7_of_61 (by decide) (fun _ => ?_) (fun h => absurd h (by first | decide | omega))
      refine V_iload_n X 3 rfl dX7_of_66 rfl ?_
      refine V_bipush X (by decide) dX7_of_67 ?_
      refine V_icmp_ne X 81 hw ⟨by decide, by decide⟩ dX7_of_69 (by decide) (fun h => absurd h (by omega)) (fun _ => ?_)
      refine V_aload_n X 1 rfl dX7_of_72 rfl ?_
      refine V_get X (ci := 7) (89) (by decide) (rfl) (by decide) rfl (fun _ h => List.mem_cons_of_mem _ (List.mem_append_right _ h)) 16 (by decide) (List.mem_of_getElem? (i := 1) rfl) rfl rfl dX7_of_73 ?_
      refine V_iload_n X 2 rfl dX7_of_76 rfl ?_
      refine V_iald X (N := 30) (101) (by decide) (rfl) (rfl) (by decide) (a.toNat) (by omega) (by omega) dX7_of_77 ?_
      refine V_top (b := σ.1 (101) (a.toNat)) (rd_n (by decide)) ?_
      refine V_goto X 132 dX7_of_78 (by decide) ?_
      exact V_iret X hr rfl (hR _ _) (by exact Or.inl ⟨hL, by unfold ofV; omega, by unfold ofR; rw [if_pos (by omega)], rfl⟩) dX7_of_132 (by decide) (by decide)
    · skip
      rw [if_neg hL] at hz9
      subst hz9
      refine V_if_eq X 49 ⟨by decide, by decide⟩ dX7_of_42 (by decide) (fun h => absurd h (by first | decide | omega)) (fun _ => ?_)
      refine V_iconst X dX7_of_45 ?_
      refine V_goto X 58 dX7_of_46 (by decide) ?_
      refine V_callV_I X (na := 1) (ci := 7) (b0 := 89) (by decide) (rfl) (by decide) rfl (m_X7_fails g l hl9 σ hR 1 ⟨by decide, by decide⟩) gX7_of_X7_fails rfl rfl rfl (by decide +kernel) ⟨Nat.le_of_ble_eq_true rfl, Nat.le_of_ble_eq_true rfl⟩ rfl rfl (Nat.le_of_ble_eq_true rfl) ⟨Nat.le_of_ble_eq_true rfl, Nat.le_of_ble_eq_true rfl⟩ dX7_of_58 (fun z10 u11 z10r hp12 => ?_)
      obtain ⟨hz9, hu13⟩ := hp12
      have hu13 := hu13.symm
      subst hu13
      rw [if_pos (by decide)] at hz9
      subst hz9
      refine V_if_eq X 66 ⟨by decide, by decide⟩ dX7_of_61 (by decide) (fun h => absurd h (by first | decide | omega)) (fun _ => ?_)
      refine V_iconst X dX7_of_64 ?_
      exact V_iret X hr rfl ⟨by decide, by decide⟩ (by exact Or.inr (Or.inl ⟨hL, rfl⟩)) dX7_of_65 (by decide) (by decide)
  · skip
    refine V_iload_n X 2 rfl dX7_of_6 rfl ?_
    refine V_bipush X (by decide) dX7_of_7 ?_
    refine V_icmp_eq X 30 hw ⟨by decide, by decide⟩ dX7_of_9 (by decide) (fun q14 => ?_) (fun q14 => ?_)
    · skip
      refine V_iconst X dX7_of_30 ?_
      refine V_goto X 35 dX7_of_31 (by decide) ?_
      refine V_istore_n X [(3, .int (iN (1))), (0, .ref (ga g (89))), (1, .int (iN (a))), (2, .int (iN (w)))] dX7_of_35 rfl (by decide) rfl ?_
      refine V_aload_n X 1 rfl dX7_of_36 rfl ?_
      refine V_aload_n X 1 rfl dX7_of_37 rfl ?_
      refine V_iload_n X 2 rfl dX7_of_38 rfl ?_
      refine V_callV_I X (na := 1) (ci := 7) (b0 := 89) (by decide) (rfl) (by decide) rfl (m_X7_isNoLap g l hl9 σ hR a ha hL4) gX7_of_X7_isNoLap rfl rfl rfl (by decide +kernel) ⟨Nat.le_of_ble_eq_true rfl, Nat.le_of_ble_eq_true rfl⟩ rfl rfl (Nat.le_of_ble_eq_true rfl) ⟨Nat.le_of_ble_eq_true rfl, Nat.le_of_ble_eq_true rfl⟩ dX7_of_39 (fun z15 u16 z15r hp17 => ?_)
      obtain ⟨hz9, hu18⟩ := hp17
      have hu18 := hu18.symm
      subst hu18
      rcases Classical.em (0 ≤ a ∧ a < σ.1 89 11) with hL | hL
      · skip
        rw [if_pos hL] at hz9
        subst hz9
        refine V_if_eq X 49 ⟨by decide, by decide⟩ dX7_of_42 (by decide) (fun _ => ?_) (fun h => absurd h (by first | decide | omega))
        refine V_iload_n X 0 rfl dX7_of_49 rfl ?_
        refine V_if_ne X 57 ⟨by decide, by decide⟩ dX7_of_50 (by decide) (fun _ => ?_) (fun h => absurd h (by first | decide | omega))
        refine V_iconst X dX7_of_57 ?_
        refine V_callV_I X (na := 1) (ci := 7) (b0 := 89) (by decide) (rfl) (by decide) rfl (m_X7_fails g l hl9 σ hR 0 ⟨by decide, by decide⟩) gX7_of_X7_fails rfl rfl rfl (by decide +kernel) ⟨Nat.le_of_ble_eq_true rfl, Nat.le_of_ble_eq_true rfl⟩ rfl rfl (Nat.le_of_ble_eq_true rfl) ⟨Nat.le_of_ble_eq_true rfl, Nat.le_of_ble_eq_true rfl⟩ dX7_of_58 (fun z19 u20 z19r hp21 => ?_)
        obtain ⟨hz9, hu22⟩ := hp21
        have hu22 := hu22.symm
        subst hu22
        rw [if_neg (by decide)] at hz9
        subst hz9
        refine V_if_eq X 66 ⟨by decide, by decide⟩ dX7_of_61 (by decide) (fun _ => ?_) (fun h => absurd h (by first | decide | omega))
        refine V_iload_n X 3 rfl dX7_of_66 rfl ?_
        refine V_bipush X (by decide) dX7_of_67 ?_
        refine V_icmp_ne X 81 hw ⟨by decide, by decide⟩ dX7_of_69 (by decide) (fun _ => ?_) (fun h => absurd h (by omega))
        refine V_iload_n X 3 rfl dX7_of_81 rfl ?_
        refine V_bipush X (by decide) dX7_of_82 ?_
        refine V_icmp_ne X 96 hw ⟨by decide, by decide⟩ dX7_of_84 (by decide) (fun h => absurd h (by omega)) (fun _ => ?_)
        refine V_aload_n X 1 rfl dX7_of_87 rfl ?_
        refine V_get X (ci := 7) (89) (by decide) (rfl) (by decide) rfl (fun _ h => List.mem_cons_of_mem _ (List.mem_append_right _ h)) 17 (by decide) (List.mem_of_getElem? (i := 2) rfl) rfl rfl dX7_of_88 ?_
        refine V_iload_n X 2 rfl dX7_of_91 rfl ?_
        refine V_iald X (N := 30) (102) (by decide) (rfl) (rfl) (by decide) (a.toNat) (by omega) (by omega) dX7_of_92 ?_
        refine V_top (b := σ.1 (102) (a.toNat)) (rd_n (by decide)) ?_
        refine V_goto X 132 dX7_of_93 (by decide) ?_
        exact V_iret X hr rfl (hR _ _) (by exact Or.inl ⟨hL, by unfold ofV; omega, by unfold ofR; rw [if_neg (by omega), if_pos (by omega)], rfl⟩) dX7_of_132 (by decide) (by decide)
      · skip
        rw [if_neg hL] at hz9
        subst hz9
        refine V_if_eq X 49 ⟨by decide, by decide⟩ dX7_of_42 (by decide) (fun h => absurd h (by first | decide | omega)) (fun _ => ?_)
        refine V_iconst X dX7_of_45 ?_
        refine V_goto X 58 dX7_of_46 (by decide) ?_
        refine V_callV_I X (na := 1) (ci := 7) (b0 := 89) (by decide) (rfl) (by decide) rfl (m_X7_fails g l hl9 σ hR 1 ⟨by decide, by decide⟩) gX7_of_X7_fails rfl rfl rfl (by decide +kernel) ⟨Nat.le_of_ble_eq_true rfl, Nat.le_of_ble_eq_true rfl⟩ rfl rfl (Nat.le_of_ble_eq_true rfl) ⟨Nat.le_of_ble_eq_true rfl, Nat.le_of_ble_eq_true rfl⟩ dX7_of_58 (fun z23 u24 z23r hp25 => ?_)
        obtain ⟨hz9, hu26⟩ := hp25
        have hu26 := hu26.symm
        subst hu26
        rw [if_pos (by decide)] at hz9
        subst hz9
        refine V_if_eq X 66 ⟨by decide, by decide⟩ dX7_of_61 (by decide) (fun h => absurd h (by first | decide | omega)) (fun _ => ?_)
        refine V_iconst X dX7_of_64 ?_
        exact V_iret X hr rfl ⟨by decide, by decide⟩ (by exact Or.inr (Or.inl ⟨hL, rfl⟩)) dX7_of_65 (by decide) (by decide)
    · skip
      refine V_iload_n X 2 rfl dX7_of_12 rfl ?_
      refine V_bipush X (by decide) dX7_of_13 ?_
      refine V_icmp_eq X 30 hw ⟨by decide, by decide⟩ dX7_of_15 (by decide) (fun q27 => ?_) (fun q27 => ?_)
      · skip
        refine V_iconst X dX7_of_30 ?_
        refine V_goto X 35 dX7_of_31 (by decide) ?_
        refine V_istore_n X [(3, .int (iN (1))), (0, .ref (ga g (89))), (1, .int (iN (a))), (2, .int (iN (w)))] dX7_of_35 rfl (by decide) rfl ?_
        refine V_aload_n X 1 rfl dX7_of_36 rfl ?_
        refine V_aload_n X 1 rfl dX7_of_37 rfl ?_
        refine V_iload_n X 2 rfl dX7_of_38 rfl ?_
        refine V_callV_I X (na := 1) (ci := 7) (b0 := 89) (by decide) (rfl) (by decide) rfl (m_X7_isNoLap g l hl9 σ hR a ha hL4) gX7_of_X7_isNoLap rfl rfl rfl (by decide +kernel) ⟨Nat.le_of_ble_eq_true rfl, Nat.le_of_ble_eq_true rfl⟩ rfl rfl (Nat.le_of_ble_eq_true rfl) ⟨Nat.le_of_ble_eq_true rfl, Nat.le_of_ble_eq_true rfl⟩ dX7_of_39 (fun z28 u29 z28r hp30 => ?_)
        obtain ⟨hz9, hu31⟩ := hp30
        have hu31 := hu31.symm
        subst hu31
        rcases Classical.em (0 ≤ a ∧ a < σ.1 89 11) with hL | hL
        · skip
          rw [if_pos hL] at hz9
          subst hz9
          refine V_if_eq X 49 ⟨by decide, by decide⟩ dX7_of_42 (by decide) (fun _ => ?_) (fun h => absurd h (by first | decide | omega))
          refine V_iload_n X 0 rfl dX7_of_49 rfl ?_
          refine V_if_ne X 57 ⟨by decide, by decide⟩ dX7_of_50 (by decide) (fun _ => ?_) (fun h => absurd h (by first | decide | omega))
          refine V_iconst X dX7_of_57 ?_
          refine V_callV_I X (na := 1) (ci := 7) (b0 := 89) (by decide) (rfl) (by decide) rfl (m_X7_fails g l hl9 σ hR 0 ⟨by decide, by decide⟩) gX7_of_X7_fails rfl rfl rfl (by decide +kernel) ⟨Nat.le_of_ble_eq_true rfl, Nat.le_of_ble_eq_true rfl⟩ rfl rfl (Nat.le_of_ble_eq_true rfl) ⟨Nat.le_of_ble_eq_true rfl, Nat.le_of_ble_eq_true rfl⟩ dX7_of_58 (fun z32 u33 z32r hp34 => ?_)
          obtain ⟨hz9, hu35⟩ := hp34
          have hu35 := hu35.symm
          subst hu35
          rw [if_neg (by decide)] at hz9
          subst hz9
          refine V_if_eq X 66 ⟨by decide, by decide⟩ dX7_of_61 (by decide) (fun _ => ?_) (fun h => absurd h (by first | decide | omega))
          refine V_iload_n X 3 rfl dX7_of_66 rfl ?_
          refine V_bipush X (by decide) dX7_of_67 ?_
          refine V_icmp_ne X 81 hw ⟨by decide, by decide⟩ dX7_of_69 (by decide) (fun _ => ?_) (fun h => absurd h (by omega))
          refine V_iload_n X 3 rfl dX7_of_81 rfl ?_
          refine V_bipush X (by decide) dX7_of_82 ?_
          refine V_icmp_ne X 96 hw ⟨by decide, by decide⟩ dX7_of_84 (by decide) (fun _ => ?_) (fun h => absurd h (by omega))
          refine V_iload_n X 3 rfl dX7_of_96 rfl ?_
          refine V_bipush X (by decide) dX7_of_97 ?_
          refine V_icmp_ne X 111 hw ⟨by decide, by decide⟩ dX7_of_99 (by decide) (fun h => absurd h (by omega)) (fun _ => ?_)
          refine V_aload_n X 1 rfl dX7_of_102 rfl ?_
          refine V_get X (ci := 7) (89) (by decide) (rfl) (by decide) rfl (fun _ h => List.mem_cons_of_mem _ (List.mem_append_right _ h)) 18 (by decide) (List.mem_of_getElem? (i := 3) rfl) rfl rfl dX7_of_103 ?_
          refine V_iload_n X 2 rfl dX7_of_106 rfl ?_
          refine V_iald X (N := 30) (103) (by decide) (rfl) (rfl) (by decide) (a.toNat) (by omega) (by omega) dX7_of_107 ?_
          refine V_top (b := σ.1 (103) (a.toNat)) (rd_n (by decide)) ?_
          refine V_goto X 132 dX7_of_108 (by decide) ?_
          exact V_iret X hr rfl (hR _ _) (by exact Or.inl ⟨hL, by unfold ofV; omega, by unfold ofR; rw [if_neg (by omega), if_neg (by omega), if_pos (by omega)], rfl⟩) dX7_of_132 (by decide) (by decide)
        · skip
          rw [if_neg hL] at hz9
          subst hz9
          refine V_if_eq X 49 ⟨by decide, by decide⟩ dX7_of_42 (by decide) (fun h => absurd h (by first | decide | omega)) (fun _ => ?_)
          refine V_iconst X dX7_of_45 ?_
          refine V_goto X 58 dX7_of_46 (by decide) ?_
          refine V_callV_I X (na := 1) (ci := 7) (b0 := 89) (by decide) (rfl) (by decide) rfl (m_X7_fails g l hl9 σ hR 1 ⟨by decide, by decide⟩) gX7_of_X7_fails rfl rfl rfl (by decide +kernel) ⟨Nat.le_of_ble_eq_true rfl, Nat.le_of_ble_eq_true rfl⟩ rfl rfl (Nat.le_of_ble_eq_true rfl) ⟨Nat.le_of_ble_eq_true rfl, Nat.le_of_ble_eq_true rfl⟩ dX7_of_58 (fun z36 u37 z36r hp38 => ?_)
          obtain ⟨hz9, hu39⟩ := hp38
          have hu39 := hu39.symm
          subst hu39
          rw [if_pos (by decide)] at hz9
          subst hz9
          refine V_if_eq X 66 ⟨by decide, by decide⟩ dX7_of_61 (by decide) (fun h => absurd h (by first | decide | omega)) (fun _ => ?_)
          refine V_iconst X dX7_of_64 ?_
          exact V_iret X hr rfl ⟨by decide, by decide⟩ (by exact Or.inr (Or.inl ⟨hL, rfl⟩)) dX7_of_65 (by decide) (by decide)
      · skip
        refine V_iload_n X 2 rfl dX7_of_18 rfl ?_
        refine V_bipush X (by decide) dX7_of_19 ?_
        refine V_icmp_eq X 30 hw ⟨by decide, by decide⟩ dX7_of_21 (by decide) (fun q40 => ?_) (fun q40 => ?_)
        · skip
          refine V_iconst X dX7_of_30 ?_
          refine V_goto X 35 dX7_of_31 (by decide) ?_
          refine V_istore_n X [(3, .int (iN (1))), (0, .ref (ga g (89))), (1, .int (iN (a))), (2, .int (iN (w)))] dX7_of_35 rfl (by decide) rfl ?_
          refine V_aload_n X 1 rfl dX7_of_36 rfl ?_
          refine V_aload_n X 1 rfl dX7_of_37 rfl ?_
          refine V_iload_n X 2 rfl dX7_of_38 rfl ?_
          refine V_callV_I X (na := 1) (ci := 7) (b0 := 89) (by decide) (rfl) (by decide) rfl (m_X7_isNoLap g l hl9 σ hR a ha hL4) gX7_of_X7_isNoLap rfl rfl rfl (by decide +kernel) ⟨Nat.le_of_ble_eq_true rfl, Nat.le_of_ble_eq_true rfl⟩ rfl rfl (Nat.le_of_ble_eq_true rfl) ⟨Nat.le_of_ble_eq_true rfl, Nat.le_of_ble_eq_true rfl⟩ dX7_of_39 (fun z41 u42 z41r hp43 => ?_)
          obtain ⟨hz9, hu44⟩ := hp43
          have hu44 := hu44.symm
          subst hu44
          rcases Classical.em (0 ≤ a ∧ a < σ.1 89 11) with hL | hL
          · skip
            rw [if_pos hL] at hz9
            subst hz9
            refine V_if_eq X 49 ⟨by decide, by decide⟩ dX7_of_42 (by decide) (fun _ => ?_) (fun h => absurd h (by first | decide | omega))
            refine V_iload_n X 0 rfl dX7_of_49 rfl ?_
            refine V_if_ne X 57 ⟨by decide, by decide⟩ dX7_of_50 (by decide) (fun _ => ?_) (fun h => absurd h (by first | decide | omega))
            refine V_iconst X dX7_of_57 ?_
            refine V_callV_I X (na := 1) (ci := 7) (b0 := 89) (by decide) (rfl) (by decide) rfl (m_X7_fails g l hl9 σ hR 0 ⟨by decide, by decide⟩) gX7_of_X7_fails rfl rfl rfl (by decide +kernel) ⟨Nat.le_of_ble_eq_true rfl, Nat.le_of_ble_eq_true rfl⟩ rfl rfl (Nat.le_of_ble_eq_true rfl) ⟨Nat.le_of_ble_eq_true rfl, Nat.le_of_ble_eq_true rfl⟩ dX7_of_58 (fun z45 u46 z45r hp47 => ?_)
            obtain ⟨hz9, hu48⟩ := hp47
            have hu48 := hu48.symm
            subst hu48
            rw [if_neg (by decide)] at hz9
            subst hz9
            refine V_if_eq X 66 ⟨by decide, by decide⟩ dX7_of_61 (by decide) (fun _ => ?_) (fun h => absurd h (by first | decide | omega))
            refine V_iload_n X 3 rfl dX7_of_66 rfl ?_
            refine V_bipush X (by decide) dX7_of_67 ?_
            refine V_icmp_ne X 81 hw ⟨by decide, by decide⟩ dX7_of_69 (by decide) (fun _ => ?_) (fun h => absurd h (by omega))
            refine V_iload_n X 3 rfl dX7_of_81 rfl ?_
            refine V_bipush X (by decide) dX7_of_82 ?_
            refine V_icmp_ne X 96 hw ⟨by decide, by decide⟩ dX7_of_84 (by decide) (fun _ => ?_) (fun h => absurd h (by omega))
            refine V_iload_n X 3 rfl dX7_of_96 rfl ?_
            refine V_bipush X (by decide) dX7_of_97 ?_
            refine V_icmp_ne X 111 hw ⟨by decide, by decide⟩ dX7_of_99 (by decide) (fun _ => ?_) (fun h => absurd h (by omega))
            refine V_iload_n X 3 rfl dX7_of_111 rfl ?_
            refine V_bipush X (by decide) dX7_of_112 ?_
            refine V_icmp_ne X 126 hw ⟨by decide, by decide⟩ dX7_of_114 (by decide) (fun h => absurd h (by omega)) (fun _ => ?_)
            refine V_aload_n X 1 rfl dX7_of_117 rfl ?_
            refine V_get X (ci := 7) (89) (by decide) (rfl) (by decide) rfl (fun _ h => List.mem_cons_of_mem _ (List.mem_append_right _ h)) 19 (by decide) (List.mem_of_getElem? (i := 4) rfl) rfl rfl dX7_of_118 ?_
            refine V_iload_n X 2 rfl dX7_of_121 rfl ?_
            refine V_iald X (N := 30) (104) (by decide) (rfl) (rfl) (by decide) (a.toNat) (by omega) (by omega) dX7_of_122 ?_
            refine V_top (b := σ.1 (104) (a.toNat)) (rd_n (by decide)) ?_
            refine V_goto X 132 dX7_of_123 (by decide) ?_
            exact V_iret X hr rfl (hR _ _) (by exact Or.inl ⟨hL, by unfold ofV; omega, by unfold ofR; rw [if_neg (by omega), if_neg (by omega), if_neg (by omega), if_pos (by omega)], rfl⟩) dX7_of_132 (by decide) (by decide)
          · skip
            rw [if_neg hL] at hz9
            subst hz9
            refine V_if_eq X 49 ⟨by decide, by decide⟩ dX7_of_42 (by decide) (fun h => absurd h (by first | decide | omega)) (fun _ => ?_)
            refine V_iconst X dX7_of_45 ?_
            refine V_goto X 58 dX7_of_46 (by decide) ?_
            refine V_callV_I X (na := 1) (ci := 7) (b0 := 89) (by decide) (rfl) (by decide) rfl (m_X7_fails g l hl9 σ hR 1 ⟨by decide, by decide⟩) gX7_of_X7_fails rfl rfl rfl (by decide +kernel) ⟨Nat.le_of_ble_eq_true rfl, Nat.le_of_ble_eq_true rfl⟩ rfl rfl (Nat.le_of_ble_eq_true rfl) ⟨Nat.le_of_ble_eq_true rfl, Nat.le_of_ble_eq_true rfl⟩ dX7_of_58 (fun z49 u50 z49r hp51 => ?_)
            obtain ⟨hz9, hu52⟩ := hp51
            have hu52 := hu52.symm
            subst hu52
            rw [if_pos (by decide)] at hz9
            subst hz9
            refine V_if_eq X 66 ⟨by decide, by decide⟩ dX7_of_61 (by decide) (fun h => absurd h (by first | decide | omega)) (fun _ => ?_)
            refine V_iconst X dX7_of_64 ?_
            exact V_iret X hr rfl ⟨by decide, by decide⟩ (by exact Or.inr (Or.inl ⟨hL, rfl⟩)) dX7_of_65 (by decide) (by decide)
        · skip
          refine V_iload_n X 2 rfl dX7_of_24 rfl ?_
          refine V_bipush X (by decide) dX7_of_25 ?_
          refine V_icmp_ne X 34 hw ⟨by decide, by decide⟩ dX7_of_27 (by decide) (fun q53 => ?_) (fun q53 => ?_)
          · skip
            refine V_iconst X dX7_of_34 ?_
            refine V_istore_n X [(3, .int (iN (0))), (0, .ref (ga g (89))), (1, .int (iN (a))), (2, .int (iN (w)))] dX7_of_35 rfl (by decide) rfl ?_
            refine V_aload_n X 1 rfl dX7_of_36 rfl ?_
            refine V_aload_n X 1 rfl dX7_of_37 rfl ?_
            refine V_iload_n X 2 rfl dX7_of_38 rfl ?_
            refine V_callV_I X (na := 1) (ci := 7) (b0 := 89) (by decide) (rfl) (by decide) rfl (m_X7_isNoLap g l hl9 σ hR a ha hL4) gX7_of_X7_isNoLap rfl rfl rfl (by decide +kernel) ⟨Nat.le_of_ble_eq_true rfl, Nat.le_of_ble_eq_true rfl⟩ rfl rfl (Nat.le_of_ble_eq_true rfl) ⟨Nat.le_of_ble_eq_true rfl, Nat.le_of_ble_eq_true rfl⟩ dX7_of_39 (fun z54 u55 z54r hp56 => ?_)
            obtain ⟨hz9, hu57⟩ := hp56
            have hu57 := hu57.symm
            subst hu57
            rcases Classical.em (0 ≤ a ∧ a < σ.1 89 11) with hL | hL
            · skip
              rw [if_pos hL] at hz9
              subst hz9
              refine V_if_eq X 49 ⟨by decide, by decide⟩ dX7_of_42 (by decide) (fun _ => ?_) (fun h => absurd h (by first | decide | omega))
              refine V_iload_n X 0 rfl dX7_of_49 rfl ?_
              refine V_if_ne X 57 ⟨by decide, by decide⟩ dX7_of_50 (by decide) (fun h => absurd h (by first | decide | omega)) (fun _ => ?_)
              refine V_iconst X dX7_of_53 ?_
              refine V_goto X 58 dX7_of_54 (by decide) ?_
              refine V_callV_I X (na := 1) (ci := 7) (b0 := 89) (by decide) (rfl) (by decide) rfl (m_X7_fails g l hl9 σ hR 2 ⟨by decide, by decide⟩) gX7_of_X7_fails rfl rfl rfl (by decide +kernel) ⟨Nat.le_of_ble_eq_true rfl, Nat.le_of_ble_eq_true rfl⟩ rfl rfl (Nat.le_of_ble_eq_true rfl) ⟨Nat.le_of_ble_eq_true rfl, Nat.le_of_ble_eq_true rfl⟩ dX7_of_58 (fun z58 u59 z58r hp60 => ?_)
              obtain ⟨hz9, hu61⟩ := hp60
              have hu61 := hu61.symm
              subst hu61
              rw [if_pos (by decide)] at hz9
              subst hz9
              refine V_if_eq X 66 ⟨by decide, by decide⟩ dX7_of_61 (by decide) (fun h => absurd h (by first | decide | omega)) (fun _ => ?_)
              refine V_iconst X dX7_of_64 ?_
              exact V_iret X hr rfl ⟨by decide, by decide⟩ (by exact Or.inr (Or.inr ⟨hL, by unfold ofV; omega, rfl⟩)) dX7_of_65 (by decide) (by decide)
            · skip
              rw [if_neg hL] at hz9
              subst hz9
              refine V_if_eq X 49 ⟨by decide, by decide⟩ dX7_of_42 (by decide) (fun h => absurd h (by first | decide | omega)) (fun _ => ?_)
              refine V_iconst X dX7_of_45 ?_
              refine V_goto X 58 dX7_of_46 (by decide) ?_
              refine V_callV_I X (na := 1) (ci := 7) (b0 := 89) (by decide) (rfl) (by decide) rfl (m_X7_fails g l hl9 σ hR 1 ⟨by decide, by decide⟩) gX7_of_X7_fails rfl rfl rfl (by decide +kernel) ⟨Nat.le_of_ble_eq_true rfl, Nat.le_of_ble_eq_true rfl⟩ rfl rfl (Nat.le_of_ble_eq_true rfl) ⟨Nat.le_of_ble_eq_true rfl, Nat.le_of_ble_eq_true rfl⟩ dX7_of_58 (fun z62 u63 z62r hp64 => ?_)
              obtain ⟨hz9, hu65⟩ := hp64
              have hu65 := hu65.symm
              subst hu65
              rw [if_pos (by decide)] at hz9
              subst hz9
              refine V_if_eq X 66 ⟨by decide, by decide⟩ dX7_of_61 (by decide) (fun h => absurd h (by first | decide | omega)) (fun _ => ?_)
              refine V_iconst X dX7_of_64 ?_
              exact V_iret X hr rfl ⟨by decide, by decide⟩ (by exact Or.inr (Or.inl ⟨hL, rfl⟩)) dX7_of_65 (by decide) (by decide)
          · skip
            refine V_iconst X dX7_of_30 ?_
            refine V_goto X 35 dX7_of_31 (by decide) ?_
            refine V_istore_n X [(3, .int (iN (1))), (0, .ref (ga g (89))), (1, .int (iN (a))), (2, .int (iN (w)))] dX7_of_35 rfl (by decide) rfl ?_
            refine V_aload_n X 1 rfl dX7_of_36 rfl ?_
            refine V_aload_n X 1 rfl dX7_of_37 rfl ?_
            refine V_iload_n X 2 rfl dX7_of_38 rfl ?_
            refine V_callV_I X (na := 1) (ci := 7) (b0 := 89) (by decide) (rfl) (by decide) rfl (m_X7_isNoLap g l hl9 σ hR a ha hL4) gX7_of_X7_isNoLap rfl rfl rfl (by decide +kernel) ⟨Nat.le_of_ble_eq_true rfl, Nat.le_of_ble_eq_true rfl⟩ rfl rfl (Nat.le_of_ble_eq_true rfl) ⟨Nat.le_of_ble_eq_true rfl, Nat.le_of_ble_eq_true rfl⟩ dX7_of_39 (fun z66 u67 z66r hp68 => ?_)
            obtain ⟨hz9, hu69⟩ := hp68
            have hu69 := hu69.symm
            subst hu69
            rcases Classical.em (0 ≤ a ∧ a < σ.1 89 11) with hL | hL
            · skip
              rw [if_pos hL] at hz9
              subst hz9
              refine V_if_eq X 49 ⟨by decide, by decide⟩ dX7_of_42 (by decide) (fun _ => ?_) (fun h => absurd h (by first | decide | omega))
              refine V_iload_n X 0 rfl dX7_of_49 rfl ?_
              refine V_if_ne X 57 ⟨by decide, by decide⟩ dX7_of_50 (by decide) (fun _ => ?_) (fun h => absurd h (by first | decide | omega))
              refine V_iconst X dX7_of_57 ?_
              refine V_callV_I X (na := 1) (ci := 7) (b0 := 89) (by decide) (rfl) (by decide) rfl (m_X7_fails g l hl9 σ hR 0 ⟨by decide, by decide⟩) gX7_of_X7_fails rfl rfl rfl (by decide +kernel) ⟨Nat.le_of_ble_eq_true rfl, Nat.le_of_ble_eq_true rfl⟩ rfl rfl (Nat.le_of_ble_eq_true rfl) ⟨Nat.le_of_ble_eq_true rfl, Nat.le_of_ble_eq_true rfl⟩ dX7_of_58 (fun z70 u71 z70r hp72 => ?_)
              obtain ⟨hz9, hu73⟩ := hp72
              have hu73 := hu73.symm
              subst hu73
              rw [if_neg (by decide)] at hz9
              subst hz9
              refine V_if_eq X 66 ⟨by decide, by decide⟩ dX7_of_61 (by decide) (fun _ => ?_) (fun h => absurd h (by first | decide | omega))
              refine V_iload_n X 3 rfl dX7_of_66 rfl ?_
              refine V_bipush X (by decide) dX7_of_67 ?_
              refine V_icmp_ne X 81 hw ⟨by decide, by decide⟩ dX7_of_69 (by decide) (fun _ => ?_) (fun h => absurd h (by omega))
              refine V_iload_n X 3 rfl dX7_of_81 rfl ?_
              refine V_bipush X (by decide) dX7_of_82 ?_
              refine V_icmp_ne X 96 hw ⟨by decide, by decide⟩ dX7_of_84 (by decide) (fun _ => ?_) (fun h => absurd h (by omega))
              refine V_iload_n X 3 rfl dX7_of_96 rfl ?_
              refine V_bipush X (by decide) dX7_of_97 ?_
              refine V_icmp_ne X 111 hw ⟨by decide, by decide⟩ dX7_of_99 (by decide) (fun _ => ?_) (fun h => absurd h (by omega))
              refine V_iload_n X 3 rfl dX7_of_111 rfl ?_
              refine V_bipush X (by decide) dX7_of_112 ?_
              refine V_icmp_ne X 126 hw ⟨by decide, by decide⟩ dX7_of_114 (by decide) (fun _ => ?_) (fun h => absurd h (by omega))
              refine V_aload_n X 1 rfl dX7_of_126 rfl ?_
              refine V_get X (ci := 7) (89) (by decide) (rfl) (by decide) rfl (fun _ h => List.mem_cons_of_mem _ (List.mem_append_right _ h)) 20 (by decide) (List.mem_of_getElem? (i := 5) rfl) rfl rfl dX7_of_127 ?_
              refine V_iload_n X 2 rfl dX7_of_130 rfl ?_
              refine V_iald X (N := 30) (105) (by decide) (rfl) (rfl) (by decide) (a.toNat) (by omega) (by omega) dX7_of_131 ?_
              refine V_top (b := σ.1 (105) (a.toNat)) (rd_n (by decide)) ?_
              exact V_iret X hr rfl (hR _ _) (by exact Or.inl ⟨hL, by unfold ofV; omega, by unfold ofR; rw [if_neg (by omega), if_neg (by omega), if_neg (by omega), if_neg (by omega)], rfl⟩) dX7_of_132 (by decide) (by decide)
            · skip
              rw [if_neg hL] at hz9
              subst hz9
              refine V_if_eq X 49 ⟨by decide, by decide⟩ dX7_of_42 (by decide) (fun h => absurd h (by first | decide | omega)) (fun _ => ?_)
              refine V_iconst X dX7_of_45 ?_
              refine V_goto X 58 dX7_of_46 (by decide) ?_
              refine V_callV_I X (na := 1) (ci := 7) (b0 := 89) (by decide) (rfl) (by decide) rfl (m_X7_fails g l hl9 σ hR 1 ⟨by decide, by decide⟩) gX7_of_X7_fails rfl rfl rfl (by decide +kernel) ⟨Nat.le_of_ble_eq_true rfl, Nat.le_of_ble_eq_true rfl⟩ rfl rfl (Nat.le_of_ble_eq_true rfl) ⟨Nat.le_of_ble_eq_true rfl, Nat.le_of_ble_eq_true rfl⟩ dX7_of_58 (fun z74 u75 z74r hp76 => ?_)
              obtain ⟨hz9, hu77⟩ := hp76
              have hu77 := hu77.symm
              subst hu77
              rw [if_pos (by decide)] at hz9
              subst hz9
              refine V_if_eq X 66 ⟨by decide, by decide⟩ dX7_of_61 (by decide) (fun h => absurd h (by first | decide | omega)) (fun _ => ?_)
              refine V_iconst X dX7_of_64 ?_
              exact V_iret X hr rfl ⟨by decide, by decide⟩ (by exact Or.inr (Or.inl ⟨hL, rfl⟩)) dX7_of_65 (by decide) (by decide)
set_option maxRecDepth 100000 in
set_option maxHeartbeats 4000000 in
theorem m_X7_beats (g : Geo) (l : Launch) (hl9 : l.stackTraces = false) (σ : St) (hR : RG σ) (n : Nat) (hMB : MB σ n) (a : Int) (ha : R32 a) : Met l yX7_beats wsX7_beats ({ frames := 2, cells := 0, slots := 0, locals := 43 }) (va_Pc [.ref (ga g (89)), .int (iN (a))] (World g σ)) (QI g (fun z u => ((0 ≤ a ∧ a < σ.1 89 11) ∧ ¬ σ.1 104 a.toNat = -1 ∧ z = (if cntM σ a.toNat < cntM σ (σ.1 104 a.toNat).toNat then 1 else 0) ∧ u = sw σ 89 0 0) ∨ (¬ (0 ≤ a ∧ a < σ.1 89 11) ∧ u = sw σ 89 0 1) ∨ ((0 ≤ a ∧ a < σ.1 89 11) ∧ σ.1 104 a.toNat = -1 ∧ u = sw σ 89 0 2))) 0 0 (gA g) := by
  refine V_met hl9 (by decide) rfl (Nat.le_of_ble_eq_true rfl) ?_
  intro p9 e9 s9 m9 b9 t9 c9 X hr _
  have hn := hMB.1
  have hn30 := hMB.2.1
  have hL4 : 0 ≤ σ.1 89 11 ∧ σ.1 89 11 ≤ 30 := by omega
  refine V_lv (lv' := [(0, .ref (ga g (89))), (1, .int (iN (a)))]) rfl ?_
  refine V_aload_n X 0 rfl dX7_beats_0 rfl ?_
  refine V_aload_n X 0 rfl dX7_beats_1 rfl ?_
  refine V_iload_n X 1 rfl dX7_beats_2 rfl ?_
  refine V_callV_I X (na := 1) (ci := 7) (b0 := 89) (by decide) (rfl) (by decide) rfl (m_X7_isNoLap g l hl9 σ hR a ha hL4) gX7_beats_X7_isNoLap rfl rfl rfl (by decide +kernel) ⟨Nat.le_of_ble_eq_true rfl, Nat.le_of_ble_eq_true rfl⟩ rfl rfl (Nat.le_of_ble_eq_true rfl) ⟨Nat.le_of_ble_eq_true rfl, Nat.le_of_ble_eq_true rfl⟩ dX7_beats_3 (fun z1 u2 z1r hp3 => ?_)
  obtain ⟨hz9, hu4⟩ := hp3
  have hu4 := hu4.symm
  subst hu4
  rcases Classical.em (0 ≤ a ∧ a < σ.1 89 11) with hL | hL
  · skip
    rw [if_pos hL] at hz9
    subst hz9
    refine V_if_eq X 13 ⟨by decide, by decide⟩ dX7_beats_6 (by decide) (fun _ => ?_) (fun h => absurd h (by first | decide | omega))
    refine V_aload_n X 0 rfl dX7_beats_13 rfl ?_
    refine V_get X (ci := 7) (89) (by decide) (rfl) (by decide) rfl (fun _ h => List.mem_cons_of_mem _ (List.mem_append_right _ h)) 19 (by decide) (List.mem_of_getElem? (i := 1) rfl) rfl rfl dX7_beats_14 ?_
    refine V_iload_n X 1 rfl dX7_beats_17 rfl ?_
    have htt := hMB.2.2 a.toNat (by omega)
    have hgg := htt.2.2.2.1
    refine V_iald X (N := 30) (104) (by decide) (rfl) (rfl) (by decide) (a.toNat) (by omega) (by omega) dX7_beats_18 ?_
    refine V_iconst X dX7_beats_19 ?_
    refine V_icmp_ne X 27 (hR _ _) ⟨by decide, by decide⟩ dX7_beats_20 (by decide) (fun q5 => ?_) (fun q5 => ?_)
    · skip
      refine V_iconst X dX7_beats_27 ?_
      refine V_callV_I X (na := 1) (ci := 7) (b0 := 89) (by decide) (rfl) (by decide) rfl (m_X7_fails g l hl9 σ hR 0 ⟨by decide, by decide⟩) gX7_beats_X7_fails rfl rfl rfl (by decide +kernel) ⟨Nat.le_of_ble_eq_true rfl, Nat.le_of_ble_eq_true rfl⟩ rfl rfl (Nat.le_of_ble_eq_true rfl) ⟨Nat.le_of_ble_eq_true rfl, Nat.le_of_ble_eq_true rfl⟩ dX7_beats_28 (fun z6 u7 z6r hp8 => ?_)
      obtain ⟨hz9, hu9⟩ := hp8
      have hu9 := hu9.symm
      subst hu9
      rw [if_neg (by decide)] at hz9
      subst hz9
      refine V_if_ne X 56 ⟨by decide, by decide⟩ dX7_beats_31 (by decide) (fun h => absurd h (by first | decide | omega)) (fun _ => ?_)
      refine V_aload_n X 0 rfl dX7_beats_34 rfl ?_
      refine V_iload_n X 1 rfl dX7_beats_35 rfl ?_
      have hc36 := hMB.cnt (l := a.toNat) (by omega)
      refine V_callV_I X (na := 1) (ci := 7) (b0 := 89) (by decide) (rfl) (by decide) rfl (m_X7_countOf g l hl9 (sw σ 89 0 0) (hR.sw _ _ ⟨by decide, by decide⟩) (a) (by omega) (by show -2147483648 ≤ cntM σ a.toNat; omega) (by show cntM σ a.toNat ≤ _; omega)) gX7_beats_X7_countOf rfl rfl rfl (by decide +kernel) ⟨Nat.le_of_ble_eq_true rfl, Nat.le_of_ble_eq_true rfl⟩ rfl rfl (Nat.le_of_ble_eq_true rfl) ⟨Nat.le_of_ble_eq_true rfl, Nat.le_of_ble_eq_true rfl⟩ dX7_beats_36 (fun z10 u11 z10r hp12 => ?_)
      obtain ⟨hz36, hu13⟩ := hp12
      have hu13 := hu13.symm
      subst hu13
      have hy36 : z10 = cntM σ a.toNat := hz36
      subst hy36
      refine V_aload_n X 0 rfl dX7_beats_39 rfl ?_
      refine V_aload_n X 0 rfl dX7_beats_40 rfl ?_
      refine V_get X (ci := 7) (89) (by decide) (rfl) (by decide) rfl (fun _ h => List.mem_cons_of_mem _ (List.mem_append_right _ h)) 19 (by decide) (List.mem_of_getElem? (i := 1) rfl) rfl rfl dX7_beats_41 ?_
      refine V_iload_n X 1 rfl dX7_beats_44 rfl ?_
      refine V_iald X (N := 30) (104) (by decide) (rfl) (rfl) (by decide) (a.toNat) (by omega) (by omega) dX7_beats_45 ?_
      refine V_top (b := σ.1 (104) (a.toNat)) (rd_n (by decide)) ?_
      have hc46 := hMB.cnt (l := (σ.1 104 a.toNat).toNat) (by omega)
      refine V_callV_I X (na := 1) (ci := 7) (b0 := 89) (by decide) (rfl) (by decide) rfl (m_X7_countOf g l hl9 (sw σ 89 0 0) (hR.sw _ _ ⟨by decide, by decide⟩) (σ.1 (104) (a.toNat)) (by omega) (by show -2147483648 ≤ cntM σ (σ.1 104 a.toNat).toNat; omega) (by show cntM σ (σ.1 104 a.toNat).toNat ≤ _; omega)) gX7_beats_X7_countOf rfl rfl rfl (by decide +kernel) ⟨Nat.le_of_ble_eq_true rfl, Nat.le_of_ble_eq_true rfl⟩ rfl rfl (Nat.le_of_ble_eq_true rfl) ⟨Nat.le_of_ble_eq_true rfl, Nat.le_of_ble_eq_true rfl⟩ dX7_beats_46 (fun z14 u15 z14r hp16 => ?_)
      obtain ⟨hz46, hu17⟩ := hp16
      have hu17 := hu17.symm
      subst hu17
      have hy46 : z14 = cntM σ (σ.1 104 a.toNat).toNat := hz46
      subst hy46
      refine V_icmp_ge X 56 ⟨by omega, by omega⟩ ⟨by omega, by omega⟩ dX7_beats_49 (by decide) (fun q18 => ?_) (fun q18 => ?_)
      · skip
        refine V_iconst X dX7_beats_56 ?_
        exact V_iret X hr (iN_bool (Or.inl rfl)).1 ⟨by decide, by decide⟩ (by exact Or.inl ⟨hL, by omega, by rw [if_neg (by omega)], rfl⟩) dX7_beats_57 (by decide) (by decide)
      · skip
        refine V_iconst X dX7_beats_52 ?_
        refine V_goto X 57 dX7_beats_53 (by decide) ?_
        exact V_iret X hr (iN_bool (Or.inr rfl)).1 ⟨by decide, by decide⟩ (by exact Or.inl ⟨hL, by omega, by rw [if_pos (by omega)], rfl⟩) dX7_beats_57 (by decide) (by decide)
    · skip
      refine V_iconst X dX7_beats_23 ?_
      refine V_goto X 28 dX7_beats_24 (by decide) ?_
      refine V_callV_I X (na := 1) (ci := 7) (b0 := 89) (by decide) (rfl) (by decide) rfl (m_X7_fails g l hl9 σ hR 2 ⟨by decide, by decide⟩) gX7_beats_X7_fails rfl rfl rfl (by decide +kernel) ⟨Nat.le_of_ble_eq_true rfl, Nat.le_of_ble_eq_true rfl⟩ rfl rfl (Nat.le_of_ble_eq_true rfl) ⟨Nat.le_of_ble_eq_true rfl, Nat.le_of_ble_eq_true rfl⟩ dX7_beats_28 (fun z19 u20 z19r hp21 => ?_)
      obtain ⟨hz9, hu22⟩ := hp21
      have hu22 := hu22.symm
      subst hu22
      rw [if_pos (by decide)] at hz9
      subst hz9
      refine V_if_ne X 56 ⟨by decide, by decide⟩ dX7_beats_31 (by decide) (fun _ => ?_) (fun h => absurd h (by first | decide | omega))
      refine V_iconst X dX7_beats_56 ?_
      exact V_iret X hr (iN_bool (Or.inl rfl)).1 ⟨by decide, by decide⟩ (by exact Or.inr (Or.inr ⟨hL, by omega, rfl⟩)) dX7_beats_57 (by decide) (by decide)
  · skip
    rw [if_neg hL] at hz9
    subst hz9
    refine V_if_eq X 13 ⟨by decide, by decide⟩ dX7_beats_6 (by decide) (fun h => absurd h (by first | decide | omega)) (fun _ => ?_)
    refine V_iconst X dX7_beats_9 ?_
    refine V_goto X 28 dX7_beats_10 (by decide) ?_
    refine V_callV_I X (na := 1) (ci := 7) (b0 := 89) (by decide) (rfl) (by decide) rfl (m_X7_fails g l hl9 σ hR 1 ⟨by decide, by decide⟩) gX7_beats_X7_fails rfl rfl rfl (by decide +kernel) ⟨Nat.le_of_ble_eq_true rfl, Nat.le_of_ble_eq_true rfl⟩ rfl rfl (Nat.le_of_ble_eq_true rfl) ⟨Nat.le_of_ble_eq_true rfl, Nat.le_of_ble_eq_true rfl⟩ dX7_beats_28 (fun z23 u24 z23r hp25 => ?_)
    obtain ⟨hz9, hu26⟩ := hp25
    have hu26 := hu26.symm
    subst hu26
    rw [if_pos (by decide)] at hz9
    subst hz9
    refine V_if_ne X 56 ⟨by decide, by decide⟩ dX7_beats_31 (by decide) (fun _ => ?_) (fun h => absurd h (by first | decide | omega))
    refine V_iconst X dX7_beats_56 ?_
    exact V_iret X hr (iN_bool (Or.inl rfl)).1 ⟨by decide, by decide⟩ (by exact Or.inr (Or.inl ⟨hL, rfl⟩)) dX7_beats_57 (by decide) (by decide)
set_option maxRecDepth 100000 in
set_option maxHeartbeats 4000000 in
theorem m_X7_least (g : Geo) (l : Launch) (hl9 : l.stackTraces = false) (σ : St) (hR : RG σ) (hT4 : 0 ≤ σ.1 89 1 ∧ σ.1 89 1 ≤ 4) (n : Nat) (hMB : MB σ n) (a : Int) (ha : R32 a) : Met l yX7_least wsX7_least ({ frames := 2, cells := 0, slots := 0, locals := 43 }) (va_Pc [.ref (ga g (89)), .int (iN (a))] (World g σ)) (QI g (fun z u => ((0 ≤ a ∧ a < σ.1 89 1) ∧ ¬ bestF (fun l => decide (σ.1 102 l = a ∧ σ.1 107 l = 0)) (cntM σ) n = -1 ∧ z = bestF (fun l => decide (σ.1 102 l = a ∧ σ.1 107 l = 0)) (cntM σ) n ∧ u = sw σ 89 0 0) ∨ (¬ (0 ≤ a ∧ a < σ.1 89 1) ∧ u = sw σ 89 0 1) ∨ ((0 ≤ a ∧ a < σ.1 89 1) ∧ bestF (fun l => decide (σ.1 102 l = a ∧ σ.1 107 l = 0)) (cntM σ) n = -1 ∧ u = sw σ 89 0 2))) 0 0 (gA g) := by
  refine V_met hl9 (by decide) rfl (Nat.le_of_ble_eq_true rfl) ?_
  intro p9 e9 s9 m9 b9 t9 c9 X hr _
  have hn := hMB.1
  have hn30 := hMB.2.1
  have hL4 : 0 ≤ σ.1 89 11 ∧ σ.1 89 11 ≤ 30 := by omega
  refine V_lv (lv' := [(0, .ref (ga g (89))), (1, .int (iN (a)))]) rfl ?_
  refine V_iconst X dX7_least_0 ?_
  refine V_istore_n X [(2, .int (iN (-1))), (0, .ref (ga g (89))), (1, .int (iN (a)))] dX7_least_1 rfl (by decide) rfl ?_
  refine V_iconst X dX7_least_2 ?_
  refine V_istore_n X [(3, .int (iN (0))), (2, .int (iN (-1))), (0, .ref (ga g (89))), (1, .int (iN (a)))] dX7_least_3 rfl (by decide) rfl ?_
  refine V_sub (lv' := [(0, .ref (ga g (89))), (1, .int (iN (a))), (2, .int (iN (-1))), (3, .int (iN (0)))]) [2, 3, 1, 0] rfl ?_
  refine V_up (N := n) (fun (i : Nat) (u : St) (lw : List (Nat × Value)) => σ = u ∧ [(0, .ref (ga g (89))), (1, .int (iN (a))), (2, .int (iN (bestF (fun l => decide (σ.1 102 l = a ∧ σ.1 107 l = 0)) (cntM σ) i))), (3, .int (iN (((i : Nat) : Int))))] = lw ∧ (True)) (i0 := 0) (Nat.zero_le _) ⟨rfl, rfl, trivial⟩ ?_ ?_
  · skip
    rintro _ _ ⟨rfl, rfl, -⟩
    have hbi := bestF_b (sel := (fun l => decide (σ.1 102 l = a ∧ σ.1 107 l = 0))) (cnt := cntM σ) n
    refine V_iload_n X 3 rfl dX7_least_4 rfl ?_
    refine V_aload_n X 0 rfl dX7_least_5 rfl ?_
    refine V_get X (ci := 7) (89) (by decide) (rfl) (by decide) rfl (fun _ h => List.mem_cons_of_mem _ (List.mem_append_right _ h)) 11 (by decide) (List.mem_of_getElem? (i := 1) rfl) rfl rfl dX7_least_6 ?_
    refine V_icmp_ge X 73 ⟨by omega, by omega⟩ (hR _ _) dX7_least_9 (by decide) (fun _ => ?_) (fun h => absurd h (by omega))
    refine V_aload_n X 0 rfl dX7_least_73 rfl ?_
    refine V_aload_n X 0 rfl dX7_least_74 rfl ?_
    refine V_iload_n X 1 rfl dX7_least_75 rfl ?_
    refine V_callV_I X (na := 1) (ci := 7) (b0 := 89) (by decide) (rfl) (by decide) rfl (m_X7_isNoTrack g l hl9 σ hR a ha hT4) gX7_least_X7_isNoTrack rfl rfl rfl (by decide +kernel) ⟨Nat.le_of_ble_eq_true rfl, Nat.le_of_ble_eq_true rfl⟩ rfl rfl (Nat.le_of_ble_eq_true rfl) ⟨Nat.le_of_ble_eq_true rfl, Nat.le_of_ble_eq_true rfl⟩ dX7_least_76 (fun z1 u2 z1r hp3 => ?_)
    obtain ⟨hz9, hu4⟩ := hp3
    have hu4 := hu4.symm
    subst hu4
    rcases Classical.em (0 ≤ a ∧ a < σ.1 89 1) with hT | hT
    · skip
      rw [if_pos hT] at hz9
      subst hz9
      refine V_if_eq X 86 ⟨by decide, by decide⟩ dX7_least_79 (by decide) (fun _ => ?_) (fun h => absurd h (by first | decide | omega))
      refine V_iload_n X 2 rfl dX7_least_86 rfl ?_
      refine V_iconst X dX7_least_87 ?_
      refine V_icmp_ne X 95 ⟨by omega, by omega⟩ ⟨by decide, by decide⟩ dX7_least_88 (by decide) (fun q5 => ?_) (fun q5 => ?_)
      · skip
        refine V_iconst X dX7_least_95 ?_
        refine V_callV_I X (na := 1) (ci := 7) (b0 := 89) (by decide) (rfl) (by decide) rfl (m_X7_fails g l hl9 σ hR 0 ⟨by decide, by decide⟩) gX7_least_X7_fails rfl rfl rfl (by decide +kernel) ⟨Nat.le_of_ble_eq_true rfl, Nat.le_of_ble_eq_true rfl⟩ rfl rfl (Nat.le_of_ble_eq_true rfl) ⟨Nat.le_of_ble_eq_true rfl, Nat.le_of_ble_eq_true rfl⟩ dX7_least_96 (fun z6 u7 z6r hp8 => ?_)
        obtain ⟨hz9, hu9⟩ := hp8
        have hu9 := hu9.symm
        subst hu9
        rw [if_neg (by decide)] at hz9
        subst hz9
        refine V_if_eq X 106 ⟨by decide, by decide⟩ dX7_least_99 (by decide) (fun _ => ?_) (fun h => absurd h (by first | decide | omega))
        refine V_iload_n X 2 rfl dX7_least_106 rfl ?_
        exact V_iret X hr rfl ⟨by omega, by omega⟩ (by exact Or.inl ⟨hT, by omega, rfl, rfl⟩) dX7_least_107 (by decide) (by decide)
      · skip
        refine V_iconst X dX7_least_91 ?_
        refine V_goto X 96 dX7_least_92 (by decide) ?_
        refine V_callV_I X (na := 1) (ci := 7) (b0 := 89) (by decide) (rfl) (by decide) rfl (m_X7_fails g l hl9 σ hR 2 ⟨by decide, by decide⟩) gX7_least_X7_fails rfl rfl rfl (by decide +kernel) ⟨Nat.le_of_ble_eq_true rfl, Nat.le_of_ble_eq_true rfl⟩ rfl rfl (Nat.le_of_ble_eq_true rfl) ⟨Nat.le_of_ble_eq_true rfl, Nat.le_of_ble_eq_true rfl⟩ dX7_least_96 (fun z10 u11 z10r hp12 => ?_)
        obtain ⟨hz9, hu13⟩ := hp12
        have hu13 := hu13.symm
        subst hu13
        rw [if_pos (by decide)] at hz9
        subst hz9
        refine V_if_eq X 106 ⟨by decide, by decide⟩ dX7_least_99 (by decide) (fun h => absurd h (by first | decide | omega)) (fun _ => ?_)
        refine V_iconst X dX7_least_102 ?_
        refine V_goto X 107 dX7_least_103 (by decide) ?_
        exact V_iret X hr rfl ⟨by decide, by decide⟩ (by exact Or.inr (Or.inr ⟨hT, by omega, rfl⟩)) dX7_least_107 (by decide) (by decide)
    · skip
      rw [if_neg hT] at hz9
      subst hz9
      refine V_if_eq X 86 ⟨by decide, by decide⟩ dX7_least_79 (by decide) (fun h => absurd h (by first | decide | omega)) (fun _ => ?_)
      refine V_iconst X dX7_least_82 ?_
      refine V_goto X 96 dX7_least_83 (by decide) ?_
      refine V_callV_I X (na := 1) (ci := 7) (b0 := 89) (by decide) (rfl) (by decide) rfl (m_X7_fails g l hl9 σ hR 1 ⟨by decide, by decide⟩) gX7_least_X7_fails rfl rfl rfl (by decide +kernel) ⟨Nat.le_of_ble_eq_true rfl, Nat.le_of_ble_eq_true rfl⟩ rfl rfl (Nat.le_of_ble_eq_true rfl) ⟨Nat.le_of_ble_eq_true rfl, Nat.le_of_ble_eq_true rfl⟩ dX7_least_96 (fun z14 u15 z14r hp16 => ?_)
      obtain ⟨hz9, hu17⟩ := hp16
      have hu17 := hu17.symm
      subst hu17
      rw [if_pos (by decide)] at hz9
      subst hz9
      refine V_if_eq X 106 ⟨by decide, by decide⟩ dX7_least_99 (by decide) (fun h => absurd h (by first | decide | omega)) (fun _ => ?_)
      refine V_iconst X dX7_least_102 ?_
      refine V_goto X 107 dX7_least_103 (by decide) ?_
      exact V_iret X hr rfl ⟨by decide, by decide⟩ (by exact Or.inr (Or.inl ⟨hT, rfl⟩)) dX7_least_107 (by decide) (by decide)
  · skip
    rintro i _ _ hiN ⟨rfl, rfl, -⟩ kk
    have hbi := bestF_b (sel := (fun l => decide (σ.1 102 l = a ∧ σ.1 107 l = 0))) (cnt := cntM σ) i
    have htt := hMB.2.2 i hiN
    refine V_iload_n X 3 rfl dX7_least_4 rfl ?_
    refine V_aload_n X 0 rfl dX7_least_5 rfl ?_
    refine V_get X (ci := 7) (89) (by decide) (rfl) (by decide) rfl (fun _ h => List.mem_cons_of_mem _ (List.mem_append_right _ h)) 11 (by decide) (List.mem_of_getElem? (i := 1) rfl) rfl rfl dX7_least_6 ?_
    refine V_icmp_ge X 73 ⟨by omega, by omega⟩ (hR _ _) dX7_least_9 (by decide) (fun h => absurd h (by omega)) (fun _ => ?_)
    refine V_aload_n X 0 rfl dX7_least_12 rfl ?_
    refine V_get X (ci := 7) (89) (by decide) (rfl) (by decide) rfl (fun _ h => List.mem_cons_of_mem _ (List.mem_append_right _ h)) 17 (by decide) (List.mem_of_getElem? (i := 2) rfl) rfl rfl dX7_least_13 ?_
    refine V_iload_n X 3 rfl dX7_least_16 rfl ?_
    refine V_iald X (N := 30) (102) (by decide) (rfl) (rfl) (by decide) (i) (rfl) (by omega) dX7_least_17 ?_
    refine V_iload_n X 1 rfl dX7_least_18 rfl ?_
    refine V_icmp_ne X 35 (hR _ _) ha dX7_least_19 (by decide) (fun q18 => ?_) (fun q18 => ?_)
    · skip
      refine V_iconst X dX7_least_35 ?_
      refine V_istore X [(4, .int (iN (0))), (0, .ref (ga g (89))), (1, .int (iN (a))), (2, .int (iN (bestF (fun l => decide (σ.1 102 l = a ∧ σ.1 107 l = 0)) (cntM σ) i))), (3, .int (iN (((i : Nat) : Int))))] dX7_least_36 (by decide) rfl ?_
      refine V_iload X 0 rfl dX7_least_38 ?_
      refine V_if_eq X 65 ⟨by decide, by decide⟩ dX7_least_40 (by decide) (fun _ => ?_) (fun h => absurd h (by first | decide | omega))
      refine V_iload_n X 3 rfl dX7_least_65 rfl ?_
      refine V_istore_n X [(2, .int (iN (bestF (fun l => decide (σ.1 102 l = a ∧ σ.1 107 l = 0)) (cntM σ) i))), (4, .int (iN (0))), (0, .ref (ga g (89))), (1, .int (iN (a))), (3, .int (iN (((i : Nat) : Int))))] dX7_least_66 rfl (by decide) rfl ?_
      refine V_iinc X [(3, .int (iN (((i : Nat) : Int) + 1))), (2, .int (iN (bestF (fun l => decide (σ.1 102 l = a ∧ σ.1 107 l = 0)) (cntM σ) i))), (4, .int (iN (0))), (0, .ref (ga g (89))), (1, .int (iN (a)))] 4 (((i : Nat) : Int) + 1) (rfl) rfl dX7_least_67 (by decide) rfl ?_
      refine V_goto X 4 dX7_least_70 (by decide) ?_
      refine V_sub (lv' := [(0, .ref (ga g (89))), (1, .int (iN (a))), (2, .int (iN (bestF (fun l => decide (σ.1 102 l = a ∧ σ.1 107 l = 0)) (cntM σ) i))), (3, .int (iN (((i : Nat) : Int) + 1)))]) [3, 4, 1, 0] rfl ?_
      refine V_lv (congrArg (fun q : Int => ([(0, .ref (ga g (89))), (1, .int (iN (a))), (2, .int (iN q)), (3, .int (iN (((i : Nat) : Int) + 1)))] : List (Nat × Value))) (show bestF (fun l => decide (σ.1 102 l = a ∧ σ.1 107 l = 0)) (cntM σ) i = bestF (fun l => decide (σ.1 102 l = a ∧ σ.1 107 l = 0)) (cntM σ) (i + 1) from best_q (fun q => by have q1 := q.1; simp at q1; omega))) ?_
      refine V_lv (congrArg (fun q : Int => ([(0, .ref (ga g (89))), (1, .int (iN (a))), (2, .int (iN (bestF (fun l => decide (σ.1 102 l = a ∧ σ.1 107 l = 0)) (cntM σ) (i + 1)))), (3, .int (iN q))] : List (Nat × Value))) (show ((i : Nat) : Int) + 1 = (((i + 1) : Nat) : Int) from by omega)) ?_
      exact kk _ _ ⟨rfl, rfl, trivial⟩
    · skip
      refine V_aload_n X 0 rfl dX7_least_22 rfl ?_
      refine V_get X (ci := 7) (89) (by decide) (rfl) (by decide) rfl (fun _ h => List.mem_cons_of_mem _ (List.mem_append_right _ h)) 22 (by decide) (List.mem_of_getElem? (i := 3) rfl) rfl rfl dX7_least_23 ?_
      refine V_iload_n X 3 rfl dX7_least_26 rfl ?_
      refine V_zald X (N := 30) (107) (by decide) (rfl) (rfl) (by decide) (i) (rfl) (by omega) dX7_least_27 ?_
      refine V_if_ne X 35 (hR _ _) dX7_least_28 (by decide) (fun q19 => ?_) (fun q19 => ?_)
      · skip
        refine V_iconst X dX7_least_35 ?_
        refine V_istore X [(4, .int (iN (0))), (0, .ref (ga g (89))), (1, .int (iN (a))), (2, .int (iN (bestF (fun l => decide (σ.1 102 l = a ∧ σ.1 107 l = 0)) (cntM σ) i))), (3, .int (iN (((i : Nat) : Int))))] dX7_least_36 (by decide) rfl ?_
        refine V_iload X 0 rfl dX7_least_38 ?_
        refine V_if_eq X 65 ⟨by decide, by decide⟩ dX7_least_40 (by decide) (fun _ => ?_) (fun h => absurd h (by first | decide | omega))
        refine V_iload_n X 3 rfl dX7_least_65 rfl ?_
        refine V_istore_n X [(2, .int (iN (bestF (fun l => decide (σ.1 102 l = a ∧ σ.1 107 l = 0)) (cntM σ) i))), (4, .int (iN (0))), (0, .ref (ga g (89))), (1, .int (iN (a))), (3, .int (iN (((i : Nat) : Int))))] dX7_least_66 rfl (by decide) rfl ?_
        refine V_iinc X [(3, .int (iN (((i : Nat) : Int) + 1))), (2, .int (iN (bestF (fun l => decide (σ.1 102 l = a ∧ σ.1 107 l = 0)) (cntM σ) i))), (4, .int (iN (0))), (0, .ref (ga g (89))), (1, .int (iN (a)))] 4 (((i : Nat) : Int) + 1) (rfl) rfl dX7_least_67 (by decide) rfl ?_
        refine V_goto X 4 dX7_least_70 (by decide) ?_
        refine V_sub (lv' := [(0, .ref (ga g (89))), (1, .int (iN (a))), (2, .int (iN (bestF (fun l => decide (σ.1 102 l = a ∧ σ.1 107 l = 0)) (cntM σ) i))), (3, .int (iN (((i : Nat) : Int) + 1)))]) [3, 4, 1, 0] rfl ?_
        refine V_lv (congrArg (fun q : Int => ([(0, .ref (ga g (89))), (1, .int (iN (a))), (2, .int (iN q)), (3, .int (iN (((i : Nat) : Int) + 1)))] : List (Nat × Value))) (show bestF (fun l => decide (σ.1 102 l = a ∧ σ.1 107 l = 0)) (cntM σ) i = bestF (fun l => decide (σ.1 102 l = a ∧ σ.1 107 l = 0)) (cntM σ) (i + 1) from best_q (fun q => by have q1 := q.1; simp at q1; omega))) ?_
        refine V_lv (congrArg (fun q : Int => ([(0, .ref (ga g (89))), (1, .int (iN (a))), (2, .int (iN (bestF (fun l => decide (σ.1 102 l = a ∧ σ.1 107 l = 0)) (cntM σ) (i + 1)))), (3, .int (iN q))] : List (Nat × Value))) (show ((i : Nat) : Int) + 1 = (((i + 1) : Nat) : Int) from by omega)) ?_
        exact kk _ _ ⟨rfl, rfl, trivial⟩
      · skip
        refine V_iconst X dX7_least_31 ?_
        refine V_goto X 36 dX7_least_32 (by decide) ?_
        refine V_istore X [(4, .int (iN (1))), (0, .ref (ga g (89))), (1, .int (iN (a))), (2, .int (iN (bestF (fun l => decide (σ.1 102 l = a ∧ σ.1 107 l = 0)) (cntM σ) i))), (3, .int (iN (((i : Nat) : Int))))] dX7_least_36 (by decide) rfl ?_
        refine V_iload X 0 rfl dX7_least_38 ?_
        refine V_if_eq X 65 ⟨by decide, by decide⟩ dX7_least_40 (by decide) (fun h => absurd h (by first | decide | omega)) (fun _ => ?_)
        refine V_iload_n X 3 rfl dX7_least_43 rfl ?_
        refine V_iconst X dX7_least_44 ?_
        refine V_icmp_eq X 61 ⟨by omega, by omega⟩ ⟨by decide, by decide⟩ dX7_least_45 (by decide) (fun q20 => ?_) (fun q20 => ?_)
        · skip
          refine V_iload_n X 4 rfl dX7_least_61 rfl ?_
          refine V_goto X 66 dX7_least_62 (by decide) ?_
          refine V_istore_n X [(2, .int (iN (((i : Nat) : Int)))), (4, .int (iN (1))), (0, .ref (ga g (89))), (1, .int (iN (a))), (3, .int (iN (((i : Nat) : Int))))] dX7_least_66 rfl (by decide) rfl ?_
          refine V_iinc X [(3, .int (iN (((i : Nat) : Int) + 1))), (2, .int (iN (((i : Nat) : Int)))), (4, .int (iN (1))), (0, .ref (ga g (89))), (1, .int (iN (a)))] 4 (((i : Nat) : Int) + 1) (rfl) rfl dX7_least_67 (by decide) rfl ?_
          refine V_goto X 4 dX7_least_70 (by decide) ?_
          refine V_sub (lv' := [(0, .ref (ga g (89))), (1, .int (iN (a))), (2, .int (iN (((i : Nat) : Int)))), (3, .int (iN (((i : Nat) : Int) + 1)))]) [3, 4, 1, 0] rfl ?_
          refine V_lv (congrArg (fun q : Int => ([(0, .ref (ga g (89))), (1, .int (iN (a))), (2, .int (iN q)), (3, .int (iN (((i : Nat) : Int) + 1)))] : List (Nat × Value))) (show ((i : Nat) : Int) = bestF (fun l => decide (σ.1 102 l = a ∧ σ.1 107 l = 0)) (cntM σ) (i + 1) from best_p (by simp; omega) (by omega))) ?_
          refine V_lv (congrArg (fun q : Int => ([(0, .ref (ga g (89))), (1, .int (iN (a))), (2, .int (iN (bestF (fun l => decide (σ.1 102 l = a ∧ σ.1 107 l = 0)) (cntM σ) (i + 1)))), (3, .int (iN q))] : List (Nat × Value))) (show ((i : Nat) : Int) + 1 = (((i + 1) : Nat) : Int) from by omega)) ?_
          exact kk _ _ ⟨rfl, rfl, trivial⟩
        · skip
          refine V_aload_n X 1 rfl dX7_least_48 rfl ?_
          refine V_iload_n X 4 rfl dX7_least_49 rfl ?_
          have hc50 := hMB.cnt (l := i) (by omega)
          refine V_callV_I X (na := 1) (ci := 7) (b0 := 89) (by decide) (rfl) (by decide) rfl (m_X7_countOf g l hl9 σ hR (((i : Nat) : Int)) (by omega) (by show -2147483648 ≤ cntM σ (i); omega) (by show cntM σ (i) ≤ _; omega)) gX7_least_X7_countOf rfl rfl rfl (by decide +kernel) ⟨Nat.le_of_ble_eq_true rfl, Nat.le_of_ble_eq_true rfl⟩ rfl rfl (Nat.le_of_ble_eq_true rfl) ⟨Nat.le_of_ble_eq_true rfl, Nat.le_of_ble_eq_true rfl⟩ dX7_least_50 (fun z21 u22 z21r hp23 => ?_)
          obtain ⟨hz50, hu24⟩ := hp23
          have hu24 := hu24.symm
          subst hu24
          have hy50 : z21 = cntM σ (i) := hz50
          subst hy50
          refine V_aload_n X 1 rfl dX7_least_53 rfl ?_
          refine V_iload_n X 3 rfl dX7_least_54 rfl ?_
          have hc55 := hMB.cnt (l := (bestF (fun l => decide (σ.1 102 l = a ∧ σ.1 107 l = 0)) (cntM σ) i).toNat) (by omega)
          refine V_callV_I X (na := 1) (ci := 7) (b0 := 89) (by decide) (rfl) (by decide) rfl (m_X7_countOf g l hl9 σ hR (bestF (fun l => decide (σ.1 102 l = a ∧ σ.1 107 l = 0)) (cntM σ) i) (by omega) (by show -2147483648 ≤ cntM σ ((bestF (fun l => decide (σ.1 102 l = a ∧ σ.1 107 l = 0)) (cntM σ) i).toNat); omega) (by show cntM σ ((bestF (fun l => decide (σ.1 102 l = a ∧ σ.1 107 l = 0)) (cntM σ) i).toNat) ≤ _; omega)) gX7_least_X7_countOf rfl rfl rfl (by decide +kernel) ⟨Nat.le_of_ble_eq_true rfl, Nat.le_of_ble_eq_true rfl⟩ rfl rfl (Nat.le_of_ble_eq_true rfl) ⟨Nat.le_of_ble_eq_true rfl, Nat.le_of_ble_eq_true rfl⟩ dX7_least_55 (fun z25 u26 z25r hp27 => ?_)
          obtain ⟨hz55, hu28⟩ := hp27
          have hu28 := hu28.symm
          subst hu28
          have hy55 : z25 = cntM σ ((bestF (fun l => decide (σ.1 102 l = a ∧ σ.1 107 l = 0)) (cntM σ) i).toNat) := hz55
          subst hy55
          refine V_icmp_ge X 65 ⟨by omega, by omega⟩ ⟨by omega, by omega⟩ dX7_least_58 (by decide) (fun q29 => ?_) (fun q29 => ?_)
          · skip
            refine V_iload_n X 3 rfl dX7_least_65 rfl ?_
            refine V_istore_n X [(2, .int (iN (bestF (fun l => decide (σ.1 102 l = a ∧ σ.1 107 l = 0)) (cntM σ) i))), (4, .int (iN (1))), (0, .ref (ga g (89))), (1, .int (iN (a))), (3, .int (iN (((i : Nat) : Int))))] dX7_least_66 rfl (by decide) rfl ?_
            refine V_iinc X [(3, .int (iN (((i : Nat) : Int) + 1))), (2, .int (iN (bestF (fun l => decide (σ.1 102 l = a ∧ σ.1 107 l = 0)) (cntM σ) i))), (4, .int (iN (1))), (0, .ref (ga g (89))), (1, .int (iN (a)))] 4 (((i : Nat) : Int) + 1) (rfl) rfl dX7_least_67 (by decide) rfl ?_
            refine V_goto X 4 dX7_least_70 (by decide) ?_
            refine V_sub (lv' := [(0, .ref (ga g (89))), (1, .int (iN (a))), (2, .int (iN (bestF (fun l => decide (σ.1 102 l = a ∧ σ.1 107 l = 0)) (cntM σ) i))), (3, .int (iN (((i : Nat) : Int) + 1)))]) [3, 4, 1, 0] rfl ?_
            refine V_lv (congrArg (fun q : Int => ([(0, .ref (ga g (89))), (1, .int (iN (a))), (2, .int (iN q)), (3, .int (iN (((i : Nat) : Int) + 1)))] : List (Nat × Value))) (show bestF (fun l => decide (σ.1 102 l = a ∧ σ.1 107 l = 0)) (cntM σ) i = bestF (fun l => decide (σ.1 102 l = a ∧ σ.1 107 l = 0)) (cntM σ) (i + 1) from best_q (fun q => by have q1 := q.1; simp at q1; omega))) ?_
            refine V_lv (congrArg (fun q : Int => ([(0, .ref (ga g (89))), (1, .int (iN (a))), (2, .int (iN (bestF (fun l => decide (σ.1 102 l = a ∧ σ.1 107 l = 0)) (cntM σ) (i + 1)))), (3, .int (iN q))] : List (Nat × Value))) (show ((i : Nat) : Int) + 1 = (((i + 1) : Nat) : Int) from by omega)) ?_
            exact kk _ _ ⟨rfl, rfl, trivial⟩
          · skip
            refine V_iload_n X 4 rfl dX7_least_61 rfl ?_
            refine V_goto X 66 dX7_least_62 (by decide) ?_
            refine V_istore_n X [(2, .int (iN (((i : Nat) : Int)))), (4, .int (iN (1))), (0, .ref (ga g (89))), (1, .int (iN (a))), (3, .int (iN (((i : Nat) : Int))))] dX7_least_66 rfl (by decide) rfl ?_
            refine V_iinc X [(3, .int (iN (((i : Nat) : Int) + 1))), (2, .int (iN (((i : Nat) : Int)))), (4, .int (iN (1))), (0, .ref (ga g (89))), (1, .int (iN (a)))] 4 (((i : Nat) : Int) + 1) (rfl) rfl dX7_least_67 (by decide) rfl ?_
            refine V_goto X 4 dX7_least_70 (by decide) ?_
            refine V_sub (lv' := [(0, .ref (ga g (89))), (1, .int (iN (a))), (2, .int (iN (((i : Nat) : Int)))), (3, .int (iN (((i : Nat) : Int) + 1)))]) [3, 4, 1, 0] rfl ?_
            refine V_lv (congrArg (fun q : Int => ([(0, .ref (ga g (89))), (1, .int (iN (a))), (2, .int (iN q)), (3, .int (iN (((i : Nat) : Int) + 1)))] : List (Nat × Value))) (show ((i : Nat) : Int) = bestF (fun l => decide (σ.1 102 l = a ∧ σ.1 107 l = 0)) (cntM σ) (i + 1) from best_p (by simp; omega) (by omega))) ?_
            refine V_lv (congrArg (fun q : Int => ([(0, .ref (ga g (89))), (1, .int (iN (a))), (2, .int (iN (bestF (fun l => decide (σ.1 102 l = a ∧ σ.1 107 l = 0)) (cntM σ) (i + 1)))), (3, .int (iN q))] : List (Nat × Value))) (show ((i : Nat) : Int) + 1 = (((i + 1) : Nat) : Int) from by omega)) ?_
            exact kk _ _ ⟨rfl, rfl, trivial⟩
set_option maxRecDepth 100000 in
set_option maxHeartbeats 4000000 in
theorem m_X7_depthOf (g : Geo) (l : Launch) (hl9 : l.stackTraces = false) (σ : St) (hR : RG σ) (n : Nat) (hn30 : n ≤ 30) (D : Nat → Int) (hMD : MD σ n D) (a : Int) (ha : 0 ≤ a ∧ a < n) : Met l yX7_depthOf wsX7_depthOf ({ frames := 0, cells := 0, slots := 0, locals := 0 }) (va_Pc [.ref (ga g (89)), .int (iN (a))] (World g σ)) (QI g (fun z u => z = D a.toNat ∧ u = σ)) 0 0 (gA g) := by
  refine V_met hl9 (by decide) rfl (Nat.le_of_ble_eq_true rfl) ?_
  intro p9 e9 s9 m9 b9 t9 c9 X hr _
  have hd0 := (hMD a.toNat (by omega)).1
  refine V_lv (lv' := [(0, .ref (ga g (89))), (1, .int (iN (a)))]) rfl ?_
  refine V_iconst X dX7_depthOf_0 ?_
  refine V_istore_n X [(2, .int (iN (0))), (0, .ref (ga g (89))), (1, .int (iN (a)))] dX7_depthOf_1 rfl (by decide) rfl ?_
  refine V_aload_n X 1 rfl dX7_depthOf_2 rfl ?_
  refine V_get X (ci := 7) (89) (by decide) (rfl) (by decide) rfl (fun _ h => List.mem_cons_of_mem _ (List.mem_append_right _ h)) 21 (by decide) (List.mem_of_getElem? (i := 1) rfl) rfl rfl dX7_depthOf_3 ?_
  refine V_iload_n X 2 rfl dX7_depthOf_6 rfl ?_
  refine V_iald X (N := 30) (106) (by decide) (rfl) (rfl) (by decide) (a.toNat) (by omega) (by omega) dX7_depthOf_7 ?_
  refine V_istore_n X [(3, .int (iN (σ.1 (106) (a.toNat)))), (2, .int (iN (0))), (0, .ref (ga g (89))), (1, .int (iN (a)))] dX7_depthOf_8 rfl (by decide) rfl ?_
  refine V_sub (lv' := [(0, .ref (ga g (89))), (1, .int (iN (a))), (2, .int (iN (0))), (3, .int (iN (σ.1 (106) (a.toNat))))]) [2, 3, 1, 0] rfl ?_
  refine V_up (N := (D a.toNat).toNat) (fun (i : Nat) (u : St) (lw : List (Nat × Value)) => σ = u ∧ [(0, .ref (ga g (89))), (1, .int (iN (a))), (2, .int (iN (((i : Nat) : Int)))), (3, .int (iN (chS σ a.toNat i)))] = lw ∧ (True)) (i0 := 0) (Nat.zero_le _) ⟨rfl, rfl, trivial⟩ ?_ ?_
  · skip
    rintro _ _ ⟨rfl, rfl, -⟩
    have hcd := chS_end hMD (l := a.toNat) (by omega)
    refine V_iload_n X 3 rfl dX7_depthOf_9 rfl ?_
    refine V_iconst X dX7_depthOf_10 ?_
    refine V_icmp_eq X 27 ⟨by omega, by omega⟩ ⟨by decide, by decide⟩ dX7_depthOf_11 (by decide) (fun _ => ?_) (fun h => absurd h (by omega))
    refine V_iload_n X 2 rfl dX7_depthOf_27 rfl ?_
    exact V_iret X hr rfl ⟨by omega, by omega⟩ (by exact ⟨by omega, rfl⟩) dX7_depthOf_28 (by decide) (by decide)
  · skip
    rintro i _ _ hiN ⟨rfl, rfl, -⟩ kk
    have hcd := chS_D hMD (l := a.toNat) (by omega) i (by omega)
    refine V_iload_n X 3 rfl dX7_depthOf_9 rfl ?_
    refine V_iconst X dX7_depthOf_10 ?_
    refine V_icmp_eq X 27 ⟨by omega, by omega⟩ ⟨by decide, by decide⟩ dX7_depthOf_11 (by decide) (fun h => absurd h (by omega)) (fun _ => ?_)
    refine V_iinc X [(2, .int (iN ((((i + 1) : Nat) : Int)))), (0, .ref (ga g (89))), (1, .int (iN (a))), (3, .int (iN (chS σ a.toNat i)))] 2 ((((i + 1) : Nat) : Int)) (by omega) rfl dX7_depthOf_14 (by decide) rfl ?_
    refine V_aload_n X 1 rfl dX7_depthOf_17 rfl ?_
    refine V_get X (ci := 7) (89) (by decide) (rfl) (by decide) rfl (fun _ h => List.mem_cons_of_mem _ (List.mem_append_right _ h)) 21 (by decide) (List.mem_of_getElem? (i := 1) rfl) rfl rfl dX7_depthOf_18 ?_
    refine V_iload_n X 3 rfl dX7_depthOf_21 rfl ?_
    refine V_iald X (N := 30) (106) (by decide) (rfl) (rfl) (by decide) ((chS σ a.toNat i).toNat) (by omega) (by omega) dX7_depthOf_22 ?_
    refine V_istore_n X [(3, .int (iN (σ.1 (106) ((chS σ a.toNat i).toNat)))), (2, .int (iN ((((i + 1) : Nat) : Int)))), (0, .ref (ga g (89))), (1, .int (iN (a)))] dX7_depthOf_23 rfl (by decide) rfl ?_
    refine V_goto X 9 dX7_depthOf_24 (by decide) ?_
    refine V_sub (lv' := [(0, .ref (ga g (89))), (1, .int (iN (a))), (2, .int (iN ((((i + 1) : Nat) : Int)))), (3, .int (iN (σ.1 (106) ((chS σ a.toNat i).toNat))))]) [2, 3, 1, 0] rfl ?_
    refine V_lv (congrArg (fun q : Int => ([(0, .ref (ga g (89))), (1, .int (iN (a))), (2, .int (iN ((((i + 1) : Nat) : Int)))), (3, .int (iN q))] : List (Nat × Value))) (show σ.1 (106) ((chS σ a.toNat i).toNat) = chS σ a.toNat (i + 1) from by rw [chS, if_neg (by omega)])) ?_
    exact kk _ _ ⟨rfl, rfl, trivial⟩
set_option maxRecDepth 100000 in
set_option maxHeartbeats 4000000 in
theorem m_X7_partsOf (g : Geo) (l : Launch) (hl9 : l.stackTraces = false) (σ : St) (hR : RG σ) (n : Nat) (hMB : MB σ n) (a : Int) (ha : 0 ≤ a ∧ a < n) : Met l yX7_partsOf wsX7_partsOf ({ frames := 0, cells := 0, slots := 0, locals := 0 }) (va_Pc [.ref (ga g (89)), .int (iN (a))] (World g σ)) (QI g (fun z u => z = prtM σ a.toNat ∧ u = σ)) 0 0 (gA g) := by
  refine V_met hl9 (by decide) rfl (Nat.le_of_ble_eq_true rfl) ?_
  intro p9 e9 s9 m9 b9 t9 c9 X hr _
  have hn := hMB.1
  have hn30 := hMB.2.1
  have hL4 : 0 ≤ σ.1 89 11 ∧ σ.1 89 11 ≤ 30 := by omega
  have htt := hMB.2.2 a.toNat (by omega)
  have htk := htt.1
  have hbb := htt.2.2.2.2.1
  refine V_lv (lv' := [(0, .ref (ga g (89))), (1, .int (iN (a)))]) rfl ?_
  refine V_aload_n X 0 rfl dX7_partsOf_0 rfl ?_
  refine V_get X (ci := 7) (89) (by decide) (rfl) (by decide) rfl (fun _ h => List.mem_cons_of_mem _ (List.mem_append_right _ h)) 21 (by decide) (List.mem_of_getElem? (i := 1) rfl) rfl rfl dX7_partsOf_1 ?_
  refine V_iload_n X 1 rfl dX7_partsOf_4 rfl ?_
  refine V_iald X (N := 30) (106) (by decide) (rfl) (rfl) (by decide) (a.toNat) (by omega) (by omega) dX7_partsOf_5 ?_
  refine V_iconst X dX7_partsOf_6 ?_
  refine V_icmp_ne X 17 (hR _ _) ⟨by decide, by decide⟩ dX7_partsOf_7 (by decide) (fun q1 => ?_) (fun q1 => ?_)
  · skip
    refine V_iconst X dX7_partsOf_17 ?_
    refine V_istore_n X [(2, .int (iN (0))), (0, .ref (ga g (89))), (1, .int (iN (a)))] dX7_partsOf_18 rfl (by decide) rfl ?_
    refine V_iconst X dX7_partsOf_19 ?_
    refine V_istore_n X [(3, .int (iN (0))), (2, .int (iN (0))), (0, .ref (ga g (89))), (1, .int (iN (a)))] dX7_partsOf_20 rfl (by decide) rfl ?_
    refine V_sub (lv' := [(0, .ref (ga g (89))), (1, .int (iN (a))), (2, .int (iN (0))), (3, .int (iN (0)))]) [2, 3, 1, 0] rfl ?_
    refine V_up (N := (σ.1 98 a.toNat).toNat) (fun (i : Nat) (u : St) (lw : List (Nat × Value)) => σ = u ∧ [(0, .ref (ga g (89))), (1, .int (iN (a))), (2, .int (iN (unlF (inM σ a.toNat) (inM σ (σ.1 106 a.toNat).toNat) (σ.1 98 (σ.1 106 a.toNat).toNat) i))), (3, .int (iN (((i : Nat) : Int))))] = lw ∧ (True)) (i0 := 0) (Nat.zero_le _) ⟨rfl, rfl, trivial⟩ ?_ ?_
    · skip
      rintro _ _ ⟨rfl, rfl, -⟩
      have hub := unlF_b2 (a := inM σ a.toNat) (b := inM σ (σ.1 106 a.toNat).toNat) (t := σ.1 98 (σ.1 106 a.toNat).toNat) (σ.1 98 a.toNat).toNat
      refine V_iload_n X 3 rfl dX7_partsOf_21 rfl ?_
      refine V_aload_n X 0 rfl dX7_partsOf_22 rfl ?_
      refine V_get X (ci := 7) (89) (by decide) (rfl) (by decide) rfl (fun _ h => List.mem_cons_of_mem _ (List.mem_append_right _ h)) 13 (by decide) (List.mem_of_getElem? (i := 2) rfl) rfl rfl dX7_partsOf_23 ?_
      refine V_iload_n X 1 rfl dX7_partsOf_26 rfl ?_
      refine V_iald X (N := 30) (98) (by decide) (rfl) (rfl) (by decide) (a.toNat) (by omega) (by omega) dX7_partsOf_27 ?_
      refine V_icmp_ge X 90 ⟨by omega, by omega⟩ (hR _ _) dX7_partsOf_28 (by decide) (fun _ => ?_) (fun h => absurd h (by omega))
      refine V_iload_n X 2 rfl dX7_partsOf_90 rfl ?_
      exact V_iret X hr rfl ⟨by omega, by omega⟩ (by exact ⟨by unfold prtM; rw [if_neg (by omega)], rfl⟩) dX7_partsOf_91 (by decide) (by decide)
    · skip
      rintro i _ _ hiN ⟨rfl, rfl, -⟩ kk
      have hub := unlF_b2 (a := inM σ a.toNat) (b := inM σ (σ.1 106 a.toNat).toNat) (t := σ.1 98 (σ.1 106 a.toNat).toNat) i
      refine V_iload_n X 3 rfl dX7_partsOf_21 rfl ?_
      refine V_aload_n X 0 rfl dX7_partsOf_22 rfl ?_
      refine V_get X (ci := 7) (89) (by decide) (rfl) (by decide) rfl (fun _ h => List.mem_cons_of_mem _ (List.mem_append_right _ h)) 13 (by decide) (List.mem_of_getElem? (i := 2) rfl) rfl rfl dX7_partsOf_23 ?_
      refine V_iload_n X 1 rfl dX7_partsOf_26 rfl ?_
      refine V_iald X (N := 30) (98) (by decide) (rfl) (rfl) (by decide) (a.toNat) (by omega) (by omega) dX7_partsOf_27 ?_
      refine V_icmp_ge X 90 ⟨by omega, by omega⟩ (hR _ _) dX7_partsOf_28 (by decide) (fun h => absurd h (by omega)) (fun _ => ?_)
      refine V_iload_n X 2 rfl dX7_partsOf_31 rfl ?_
      refine V_iload_n X 3 rfl dX7_partsOf_32 rfl ?_
      refine V_aload_n X 0 rfl dX7_partsOf_33 rfl ?_
      refine V_get X (ci := 7) (89) (by decide) (rfl) (by decide) rfl (fun _ h => List.mem_cons_of_mem _ (List.mem_append_right _ h)) 13 (by decide) (List.mem_of_getElem? (i := 2) rfl) rfl rfl dX7_partsOf_34 ?_
      refine V_aload_n X 0 rfl dX7_partsOf_37 rfl ?_
      refine V_get X (ci := 7) (89) (by decide) (rfl) (by decide) rfl (fun _ h => List.mem_cons_of_mem _ (List.mem_append_right _ h)) 21 (by decide) (List.mem_of_getElem? (i := 1) rfl) rfl rfl dX7_partsOf_38 ?_
      refine V_iload_n X 1 rfl dX7_partsOf_41 rfl ?_
      refine V_iald X (N := 30) (106) (by decide) (rfl) (rfl) (by decide) (a.toNat) (by omega) (by omega) dX7_partsOf_42 ?_
      refine V_iald X (N := 30) (98) (by decide) (rfl) (rfl) (by decide) ((σ.1 106 a.toNat).toNat) (by omega) (by omega) dX7_partsOf_43 ?_
      refine V_icmp_ge X 77 ⟨by omega, by omega⟩ (hR _ _) dX7_partsOf_44 (by decide) (fun q2 => ?_) (fun q2 => ?_)
      · skip
        refine V_iconst X dX7_partsOf_77 ?_
        refine V_goto X 82 dX7_partsOf_78 (by decide) ?_
        refine V_iadd X dX7_partsOf_82 ?_
        refine V_istore_n X [(2, .int (iN ((unlF (inM σ a.toNat) (inM σ (σ.1 106 a.toNat).toNat) (σ.1 98 (σ.1 106 a.toNat).toNat) i) + 1))), (0, .ref (ga g (89))), (1, .int (iN (a))), (3, .int (iN (((i : Nat) : Int))))] dX7_partsOf_83 rfl (by decide) rfl ?_
        refine V_iinc X [(3, .int (iN (((i : Nat) : Int) + 1))), (2, .int (iN ((unlF (inM σ a.toNat) (inM σ (σ.1 106 a.toNat).toNat) (σ.1 98 (σ.1 106 a.toNat).toNat) i) + 1))), (0, .ref (ga g (89))), (1, .int (iN (a)))] 3 (((i : Nat) : Int) + 1) (rfl) rfl dX7_partsOf_84 (by decide) rfl ?_
        refine V_goto X 21 dX7_partsOf_87 (by decide) ?_
        refine V_sub (lv' := [(0, .ref (ga g (89))), (1, .int (iN (a))), (2, .int (iN ((unlF (inM σ a.toNat) (inM σ (σ.1 106 a.toNat).toNat) (σ.1 98 (σ.1 106 a.toNat).toNat) i) + 1))), (3, .int (iN (((i : Nat) : Int) + 1)))]) [2, 3, 1, 0] rfl ?_
        refine V_lv (congrArg (fun q : Int => ([(0, .ref (ga g (89))), (1, .int (iN (a))), (2, .int (iN q)), (3, .int (iN (((i : Nat) : Int) + 1)))] : List (Nat × Value))) (show (unlF (inM σ a.toNat) (inM σ (σ.1 106 a.toNat).toNat) (σ.1 98 (σ.1 106 a.toNat).toNat) i) + 1 = unlF (inM σ a.toNat) (inM σ (σ.1 106 a.toNat).toNat) (σ.1 98 (σ.1 106 a.toNat).toNat) (i + 1) from by show _ = unlF _ _ _ i + (if _ then 1 else 0); rw [if_pos (by first | exact Or.inl (by omega) | exact Or.inr (by omega))])) ?_
        refine V_lv (congrArg (fun q : Int => ([(0, .ref (ga g (89))), (1, .int (iN (a))), (2, .int (iN (unlF (inM σ a.toNat) (inM σ (σ.1 106 a.toNat).toNat) (σ.1 98 (σ.1 106 a.toNat).toNat) (i + 1)))), (3, .int (iN q))] : List (Nat × Value))) (show ((i : Nat) : Int) + 1 = (((i + 1) : Nat) : Int) from by omega)) ?_
        exact kk _ _ ⟨rfl, rfl, trivial⟩
      · skip
        refine V_aload_n X 0 rfl dX7_partsOf_47 rfl ?_
        refine V_get X (ci := 7) (89) (by decide) (rfl) (by decide) rfl (fun _ h => List.mem_cons_of_mem _ (List.mem_append_right _ h)) 12 (by decide) (List.mem_of_getElem? (i := 3) rfl) rfl rfl dX7_partsOf_48 ?_
        refine V_bipush X (by decide) dX7_partsOf_51 ?_
        refine V_iload_n X 1 rfl dX7_partsOf_53 rfl ?_
        refine V_imul X dX7_partsOf_54 ?_
        refine V_top (b := 60 * a) (rfl) ?_
        refine V_iload_n X 3 rfl dX7_partsOf_55 rfl ?_
        refine V_iadd X dX7_partsOf_56 ?_
        refine V_top (b := 60 * a + (i : Int)) (rfl) ?_
        refine V_cald X (N := 1800) (97) (by decide) (rfl) (rfl) (by decide) (60 * a.toNat + i) (by omega) (by omega) dX7_partsOf_57 ?_
        refine V_top (b := inM σ a.toNat i) rfl ?_
        refine V_aload_n X 0 rfl dX7_partsOf_58 rfl ?_
        refine V_get X (ci := 7) (89) (by decide) (rfl) (by decide) rfl (fun _ h => List.mem_cons_of_mem _ (List.mem_append_right _ h)) 12 (by decide) (List.mem_of_getElem? (i := 3) rfl) rfl rfl dX7_partsOf_59 ?_
        refine V_bipush X (by decide) dX7_partsOf_62 ?_
        refine V_aload_n X 0 rfl dX7_partsOf_64 rfl ?_
        refine V_get X (ci := 7) (89) (by decide) (rfl) (by decide) rfl (fun _ h => List.mem_cons_of_mem _ (List.mem_append_right _ h)) 21 (by decide) (List.mem_of_getElem? (i := 1) rfl) rfl rfl dX7_partsOf_65 ?_
        refine V_iload_n X 1 rfl dX7_partsOf_68 rfl ?_
        refine V_iald X (N := 30) (106) (by decide) (rfl) (rfl) (by decide) (a.toNat) (by omega) (by omega) dX7_partsOf_69 ?_
        refine V_imul X dX7_partsOf_70 ?_
        refine V_top (b := 60 * (σ.1 106 a.toNat)) (rfl) ?_
        refine V_iload_n X 3 rfl dX7_partsOf_71 rfl ?_
        refine V_iadd X dX7_partsOf_72 ?_
        refine V_top (b := 60 * (σ.1 106 a.toNat) + (i : Int)) (rfl) ?_
        refine V_cald X (N := 1800) (97) (by decide) (rfl) (rfl) (by decide) (60 * (σ.1 106 a.toNat).toNat + i) (by omega) (by omega) dX7_partsOf_73 ?_
        refine V_top (b := inM σ (σ.1 106 a.toNat).toNat i) rfl ?_
        refine V_icmp_eq X 81 (hR _ _) (hR _ _) dX7_partsOf_74 (by decide) (fun q3 => ?_) (fun q3 => ?_)
        · skip
          refine V_iconst X dX7_partsOf_81 ?_
          refine V_iadd X dX7_partsOf_82 ?_
          refine V_istore_n X [(2, .int (iN ((unlF (inM σ a.toNat) (inM σ (σ.1 106 a.toNat).toNat) (σ.1 98 (σ.1 106 a.toNat).toNat) i) + 0))), (0, .ref (ga g (89))), (1, .int (iN (a))), (3, .int (iN (((i : Nat) : Int))))] dX7_partsOf_83 rfl (by decide) rfl ?_
          refine V_iinc X [(3, .int (iN (((i : Nat) : Int) + 1))), (2, .int (iN ((unlF (inM σ a.toNat) (inM σ (σ.1 106 a.toNat).toNat) (σ.1 98 (σ.1 106 a.toNat).toNat) i) + 0))), (0, .ref (ga g (89))), (1, .int (iN (a)))] 3 (((i : Nat) : Int) + 1) (rfl) rfl dX7_partsOf_84 (by decide) rfl ?_
          refine V_goto X 21 dX7_partsOf_87 (by decide) ?_
          refine V_sub (lv' := [(0, .ref (ga g (89))), (1, .int (iN (a))), (2, .int (iN ((unlF (inM σ a.toNat) (inM σ (σ.1 106 a.toNat).toNat) (σ.1 98 (σ.1 106 a.toNat).toNat) i) + 0))), (3, .int (iN (((i : Nat) : Int) + 1)))]) [2, 3, 1, 0] rfl ?_
          refine V_lv (congrArg (fun q : Int => ([(0, .ref (ga g (89))), (1, .int (iN (a))), (2, .int (iN q)), (3, .int (iN (((i : Nat) : Int) + 1)))] : List (Nat × Value))) (show (unlF (inM σ a.toNat) (inM σ (σ.1 106 a.toNat).toNat) (σ.1 98 (σ.1 106 a.toNat).toNat) i) + 0 = unlF (inM σ a.toNat) (inM σ (σ.1 106 a.toNat).toNat) (σ.1 98 (σ.1 106 a.toNat).toNat) (i + 1) from by show _ = unlF _ _ _ i + (if _ then 1 else 0); rw [if_neg (fun q => q.elim (fun z => by omega) (fun z => z (by unfold inM; omega)))])) ?_
          refine V_lv (congrArg (fun q : Int => ([(0, .ref (ga g (89))), (1, .int (iN (a))), (2, .int (iN (unlF (inM σ a.toNat) (inM σ (σ.1 106 a.toNat).toNat) (σ.1 98 (σ.1 106 a.toNat).toNat) (i + 1)))), (3, .int (iN q))] : List (Nat × Value))) (show ((i : Nat) : Int) + 1 = (((i + 1) : Nat) : Int) from by omega)) ?_
          exact kk _ _ ⟨rfl, rfl, trivial⟩
        · skip
          refine V_iconst X dX7_partsOf_77 ?_
          refine V_goto X 82 dX7_partsOf_78 (by decide) ?_
          refine V_iadd X dX7_partsOf_82 ?_
          refine V_istore_n X [(2, .int (iN ((unlF (inM σ a.toNat) (inM σ (σ.1 106 a.toNat).toNat) (σ.1 98 (σ.1 106 a.toNat).toNat) i) + 1))), (0, .ref (ga g (89))), (1, .int (iN (a))), (3, .int (iN (((i : Nat) : Int))))] dX7_partsOf_83 rfl (by decide) rfl ?_
          refine V_iinc X [(3, .int (iN (((i : Nat) : Int) + 1))), (2, .int (iN ((unlF (inM σ a.toNat) (inM σ (σ.1 106 a.toNat).toNat) (σ.1 98 (σ.1 106 a.toNat).toNat) i) + 1))), (0, .ref (ga g (89))), (1, .int (iN (a)))] 3 (((i : Nat) : Int) + 1) (rfl) rfl dX7_partsOf_84 (by decide) rfl ?_
          refine V_goto X 21 dX7_partsOf_87 (by decide) ?_
          refine V_sub (lv' := [(0, .ref (ga g (89))), (1, .int (iN (a))), (2, .int (iN ((unlF (inM σ a.toNat) (inM σ (σ.1 106 a.toNat).toNat) (σ.1 98 (σ.1 106 a.toNat).toNat) i) + 1))), (3, .int (iN (((i : Nat) : Int) + 1)))]) [2, 3, 1, 0] rfl ?_
          refine V_lv (congrArg (fun q : Int => ([(0, .ref (ga g (89))), (1, .int (iN (a))), (2, .int (iN q)), (3, .int (iN (((i : Nat) : Int) + 1)))] : List (Nat × Value))) (show (unlF (inM σ a.toNat) (inM σ (σ.1 106 a.toNat).toNat) (σ.1 98 (σ.1 106 a.toNat).toNat) i) + 1 = unlF (inM σ a.toNat) (inM σ (σ.1 106 a.toNat).toNat) (σ.1 98 (σ.1 106 a.toNat).toNat) (i + 1) from by show _ = unlF _ _ _ i + (if _ then 1 else 0); rw [if_pos (by first | exact Or.inl (by omega) | exact Or.inr (by omega))])) ?_
          refine V_lv (congrArg (fun q : Int => ([(0, .ref (ga g (89))), (1, .int (iN (a))), (2, .int (iN (unlF (inM σ a.toNat) (inM σ (σ.1 106 a.toNat).toNat) (σ.1 98 (σ.1 106 a.toNat).toNat) (i + 1)))), (3, .int (iN q))] : List (Nat × Value))) (show ((i : Nat) : Int) + 1 = (((i + 1) : Nat) : Int) from by omega)) ?_
          exact kk _ _ ⟨rfl, rfl, trivial⟩
  · skip
    refine V_aload_n X 0 rfl dX7_partsOf_10 rfl ?_
    refine V_get X (ci := 7) (89) (by decide) (rfl) (by decide) rfl (fun _ h => List.mem_cons_of_mem _ (List.mem_append_right _ h)) 13 (by decide) (List.mem_of_getElem? (i := 2) rfl) rfl rfl dX7_partsOf_11 ?_
    refine V_iload_n X 1 rfl dX7_partsOf_14 rfl ?_
    refine V_iald X (N := 30) (98) (by decide) (rfl) (rfl) (by decide) (a.toNat) (by omega) (by omega) dX7_partsOf_15 ?_
    exact V_iret X hr rfl (hR _ _) (by exact ⟨by unfold prtM; rw [if_pos (by omega)], rfl⟩) dX7_partsOf_16 (by decide) (by decide)
set_option maxRecDepth 100000 in
set_option maxHeartbeats 4000000 in
theorem m_X7_base (g : Geo) (l : Launch) (hl9 : l.stackTraces = false) (σ : St) (hR : RG σ) (n : Nat) (hMB : MB σ n) (a : Int) (ha : R32 a) : Met l yX7_base wsX7_base ({ frames := 2, cells := 0, slots := 0, locals := 43 }) (va_Pc [.ref (ga g (89)), .int (iN (a))] (World g σ)) (QI g (fun z u => ((0 ≤ a ∧ a < σ.1 89 11) ∧ ¬ σ.1 106 a.toNat = -1 ∧ z = σ.1 106 a.toNat ∧ u = sw σ 89 0 0) ∨ (¬ (0 ≤ a ∧ a < σ.1 89 11) ∧ u = sw σ 89 0 1) ∨ ((0 ≤ a ∧ a < σ.1 89 11) ∧ σ.1 106 a.toNat = -1 ∧ u = sw σ 89 0 2))) 0 0 (gA g) := by
  refine V_met hl9 (by decide) rfl (Nat.le_of_ble_eq_true rfl) ?_
  intro p9 e9 s9 m9 b9 t9 c9 X hr _
  have hn := hMB.1
  have hn30 := hMB.2.1
  have hL4 : 0 ≤ σ.1 89 11 ∧ σ.1 89 11 ≤ 30 := by omega
  refine V_lv (lv' := [(0, .ref (ga g (89))), (1, .int (iN (a)))]) rfl ?_
  refine V_aload_n X 0 rfl dX7_base_0 rfl ?_
  refine V_aload_n X 0 rfl dX7_base_1 rfl ?_
  refine V_iload_n X 1 rfl dX7_base_2 rfl ?_
  refine V_callV_I X (na := 1) (ci := 7) (b0 := 89) (by decide) (rfl) (by decide) rfl (m_X7_isNoLap g l hl9 σ hR a ha hL4) gX7_base_X7_isNoLap rfl rfl rfl (by decide +kernel) ⟨Nat.le_of_ble_eq_true rfl, Nat.le_of_ble_eq_true rfl⟩ rfl rfl (Nat.le_of_ble_eq_true rfl) ⟨Nat.le_of_ble_eq_true rfl, Nat.le_of_ble_eq_true rfl⟩ dX7_base_3 (fun z1 u2 z1r hp3 => ?_)
  obtain ⟨hz9, hu4⟩ := hp3
  have hu4 := hu4.symm
  subst hu4
  rcases Classical.em (0 ≤ a ∧ a < σ.1 89 11) with hL | hL
  · skip
    rw [if_pos hL] at hz9
    subst hz9
    refine V_if_eq X 13 ⟨by decide, by decide⟩ dX7_base_6 (by decide) (fun _ => ?_) (fun h => absurd h (by first | decide | omega))
    refine V_aload_n X 0 rfl dX7_base_13 rfl ?_
    refine V_get X (ci := 7) (89) (by decide) (rfl) (by decide) rfl (fun _ h => List.mem_cons_of_mem _ (List.mem_append_right _ h)) 21 (by decide) (List.mem_of_getElem? (i := 1) rfl) rfl rfl dX7_base_14 ?_
    refine V_iload_n X 1 rfl dX7_base_17 rfl ?_
    refine V_iald X (N := 30) (106) (by decide) (rfl) (rfl) (by decide) (a.toNat) (by omega) (by omega) dX7_base_18 ?_
    refine V_iconst X dX7_base_19 ?_
    refine V_icmp_ne X 27 (hR _ _) ⟨by decide, by decide⟩ dX7_base_20 (by decide) (fun q5 => ?_) (fun q5 => ?_)
    · skip
      refine V_iconst X dX7_base_27 ?_
      refine V_callV_I X (na := 1) (ci := 7) (b0 := 89) (by decide) (rfl) (by decide) rfl (m_X7_fails g l hl9 σ hR 0 ⟨by decide, by decide⟩) gX7_base_X7_fails rfl rfl rfl (by decide +kernel) ⟨Nat.le_of_ble_eq_true rfl, Nat.le_of_ble_eq_true rfl⟩ rfl rfl (Nat.le_of_ble_eq_true rfl) ⟨Nat.le_of_ble_eq_true rfl, Nat.le_of_ble_eq_true rfl⟩ dX7_base_28 (fun z6 u7 z6r hp8 => ?_)
      obtain ⟨hz9, hu9⟩ := hp8
      have hu9 := hu9.symm
      subst hu9
      rw [if_neg (by decide)] at hz9
      subst hz9
      refine V_if_eq X 38 ⟨by decide, by decide⟩ dX7_base_31 (by decide) (fun _ => ?_) (fun h => absurd h (by first | decide | omega))
      refine V_aload_n X 0 rfl dX7_base_38 rfl ?_
      refine V_get X (ci := 7) (89) (by decide) (rfl) (by decide) rfl (fun _ h => List.mem_cons_of_mem _ (List.mem_append_right _ h)) 21 (by decide) (List.mem_of_getElem? (i := 1) rfl) rfl rfl dX7_base_39 ?_
      refine V_iload_n X 1 rfl dX7_base_42 rfl ?_
      refine V_iald X (N := 30) (106) (by decide) (rfl) (rfl) (by decide) (a.toNat) (by omega) (by omega) dX7_base_43 ?_
      refine V_top (b := σ.1 (106) (a.toNat)) (rd_n (by decide)) ?_
      exact V_iret X hr rfl (hR _ _) (by exact Or.inl ⟨hL, by omega, rfl, rfl⟩) dX7_base_44 (by decide) (by decide)
    · skip
      refine V_iconst X dX7_base_23 ?_
      refine V_goto X 28 dX7_base_24 (by decide) ?_
      refine V_callV_I X (na := 1) (ci := 7) (b0 := 89) (by decide) (rfl) (by decide) rfl (m_X7_fails g l hl9 σ hR 2 ⟨by decide, by decide⟩) gX7_base_X7_fails rfl rfl rfl (by decide +kernel) ⟨Nat.le_of_ble_eq_true rfl, Nat.le_of_ble_eq_true rfl⟩ rfl rfl (Nat.le_of_ble_eq_true rfl) ⟨Nat.le_of_ble_eq_true rfl, Nat.le_of_ble_eq_true rfl⟩ dX7_base_28 (fun z10 u11 z10r hp12 => ?_)
      obtain ⟨hz9, hu13⟩ := hp12
      have hu13 := hu13.symm
      subst hu13
      rw [if_pos (by decide)] at hz9
      subst hz9
      refine V_if_eq X 38 ⟨by decide, by decide⟩ dX7_base_31 (by decide) (fun h => absurd h (by first | decide | omega)) (fun _ => ?_)
      refine V_iconst X dX7_base_34 ?_
      refine V_goto X 44 dX7_base_35 (by decide) ?_
      exact V_iret X hr rfl ⟨by decide, by decide⟩ (by exact Or.inr (Or.inr ⟨hL, by omega, rfl⟩)) dX7_base_44 (by decide) (by decide)
  · skip
    rw [if_neg hL] at hz9
    subst hz9
    refine V_if_eq X 13 ⟨by decide, by decide⟩ dX7_base_6 (by decide) (fun h => absurd h (by first | decide | omega)) (fun _ => ?_)
    refine V_iconst X dX7_base_9 ?_
    refine V_goto X 28 dX7_base_10 (by decide) ?_
    refine V_callV_I X (na := 1) (ci := 7) (b0 := 89) (by decide) (rfl) (by decide) rfl (m_X7_fails g l hl9 σ hR 1 ⟨by decide, by decide⟩) gX7_base_X7_fails rfl rfl rfl (by decide +kernel) ⟨Nat.le_of_ble_eq_true rfl, Nat.le_of_ble_eq_true rfl⟩ rfl rfl (Nat.le_of_ble_eq_true rfl) ⟨Nat.le_of_ble_eq_true rfl, Nat.le_of_ble_eq_true rfl⟩ dX7_base_28 (fun z14 u15 z14r hp16 => ?_)
    obtain ⟨hz9, hu17⟩ := hp16
    have hu17 := hu17.symm
    subst hu17
    rw [if_pos (by decide)] at hz9
    subst hz9
    refine V_if_eq X 38 ⟨by decide, by decide⟩ dX7_base_31 (by decide) (fun h => absurd h (by first | decide | omega)) (fun _ => ?_)
    refine V_iconst X dX7_base_34 ?_
    refine V_goto X 44 dX7_base_35 (by decide) ?_
    exact V_iret X hr rfl ⟨by decide, by decide⟩ (by exact Or.inr (Or.inl ⟨hL, rfl⟩)) dX7_base_44 (by decide) (by decide)
set_option maxRecDepth 100000 in
set_option maxHeartbeats 4000000 in
theorem m_X7_depth (g : Geo) (l : Launch) (hl9 : l.stackTraces = false) (σ : St) (hR : RG σ) (n : Nat) (hMB : MB σ n) (D : Nat → Int) (hMD : MD σ n D) (a : Int) (ha : R32 a) : Met l yX7_depth wsX7_depth ({ frames := 2, cells := 0, slots := 0, locals := 43 }) (va_Pc [.ref (ga g (89)), .int (iN (a))] (World g σ)) (QI g (fun z u => ((0 ≤ a ∧ a < σ.1 89 11) ∧ z = D a.toNat ∧ u = sw σ 89 0 0) ∨ (¬ (0 ≤ a ∧ a < σ.1 89 11) ∧ u = sw σ 89 0 1))) 0 0 (gA g) := by
  refine V_met hl9 (by decide) rfl (Nat.le_of_ble_eq_true rfl) ?_
  intro p9 e9 s9 m9 b9 t9 c9 X hr _
  have hn := hMB.1
  have hn30 := hMB.2.1
  have hL4 : 0 ≤ σ.1 89 11 ∧ σ.1 89 11 ≤ 30 := by omega
  refine V_lv (lv' := [(0, .ref (ga g (89))), (1, .int (iN (a)))]) rfl ?_
  refine V_aload_n X 0 rfl dX7_depth_0 rfl ?_
  refine V_aload_n X 0 rfl dX7_depth_1 rfl ?_
  refine V_iload_n X 1 rfl dX7_depth_2 rfl ?_
  refine V_callV_I X (na := 1) (ci := 7) (b0 := 89) (by decide) (rfl) (by decide) rfl (m_X7_isNoLap g l hl9 σ hR a ha hL4) gX7_depth_X7_isNoLap rfl rfl rfl (by decide +kernel) ⟨Nat.le_of_ble_eq_true rfl, Nat.le_of_ble_eq_true rfl⟩ rfl rfl (Nat.le_of_ble_eq_true rfl) ⟨Nat.le_of_ble_eq_true rfl, Nat.le_of_ble_eq_true rfl⟩ dX7_depth_3 (fun z1 u2 z1r hp3 => ?_)
  obtain ⟨hz9, hu4⟩ := hp3
  have hu4 := hu4.symm
  subst hu4
  rcases Classical.em (0 ≤ a ∧ a < σ.1 89 11) with hL | hL
  · skip
    rw [if_pos hL] at hz9
    subst hz9
    refine V_if_eq X 13 ⟨by decide, by decide⟩ dX7_depth_6 (by decide) (fun _ => ?_) (fun h => absurd h (by first | decide | omega))
    refine V_iconst X dX7_depth_13 ?_
    refine V_callV_I X (na := 1) (ci := 7) (b0 := 89) (by decide) (rfl) (by decide) rfl (m_X7_fails g l hl9 σ hR 0 ⟨by decide, by decide⟩) gX7_depth_X7_fails rfl rfl rfl (by decide +kernel) ⟨Nat.le_of_ble_eq_true rfl, Nat.le_of_ble_eq_true rfl⟩ rfl rfl (Nat.le_of_ble_eq_true rfl) ⟨Nat.le_of_ble_eq_true rfl, Nat.le_of_ble_eq_true rfl⟩ dX7_depth_14 (fun z5 u6 z5r hp7 => ?_)
    obtain ⟨hz9, hu8⟩ := hp7
    have hu8 := hu8.symm
    subst hu8
    rw [if_neg (by decide)] at hz9
    subst hz9
    refine V_if_eq X 24 ⟨by decide, by decide⟩ dX7_depth_17 (by decide) (fun _ => ?_) (fun h => absurd h (by first | decide | omega))
    refine V_aload_n X 0 rfl dX7_depth_24 rfl ?_
    refine V_iload_n X 1 rfl dX7_depth_25 rfl ?_
    refine V_callV_I X (na := 1) (ci := 7) (b0 := 89) (by decide) (rfl) (by decide) rfl (m_X7_depthOf g l hl9 (sw σ 89 0 0) (hR.sw _ _ ⟨by decide, by decide⟩) n hn30 D hMD a (by omega)) gX7_depth_X7_depthOf rfl rfl rfl (by decide +kernel) ⟨Nat.le_of_ble_eq_true rfl, Nat.le_of_ble_eq_true rfl⟩ rfl rfl (Nat.le_of_ble_eq_true rfl) ⟨Nat.le_of_ble_eq_true rfl, Nat.le_of_ble_eq_true rfl⟩ dX7_depth_26 (fun z9 u10 z9r hp11 => ?_)
    obtain ⟨hz, hu12⟩ := hp11
    have hu12 := hu12.symm
    subst hu12
    exact V_iret X hr rfl z9r (by exact Or.inl ⟨hL, hz, rfl⟩) dX7_depth_29 (by decide) (by decide)
  · skip
    rw [if_neg hL] at hz9
    subst hz9
    refine V_if_eq X 13 ⟨by decide, by decide⟩ dX7_depth_6 (by decide) (fun h => absurd h (by first | decide | omega)) (fun _ => ?_)
    refine V_iconst X dX7_depth_9 ?_
    refine V_goto X 14 dX7_depth_10 (by decide) ?_
    refine V_callV_I X (na := 1) (ci := 7) (b0 := 89) (by decide) (rfl) (by decide) rfl (m_X7_fails g l hl9 σ hR 1 ⟨by decide, by decide⟩) gX7_depth_X7_fails rfl rfl rfl (by decide +kernel) ⟨Nat.le_of_ble_eq_true rfl, Nat.le_of_ble_eq_true rfl⟩ rfl rfl (Nat.le_of_ble_eq_true rfl) ⟨Nat.le_of_ble_eq_true rfl, Nat.le_of_ble_eq_true rfl⟩ dX7_depth_14 (fun z13 u14 z13r hp15 => ?_)
    obtain ⟨hz9, hu16⟩ := hp15
    have hu16 := hu16.symm
    subst hu16
    rw [if_pos (by decide)] at hz9
    subst hz9
    refine V_if_eq X 24 ⟨by decide, by decide⟩ dX7_depth_17 (by decide) (fun h => absurd h (by first | decide | omega)) (fun _ => ?_)
    refine V_iconst X dX7_depth_20 ?_
    refine V_goto X 29 dX7_depth_21 (by decide) ?_
    exact V_iret X hr rfl ⟨by decide, by decide⟩ (by exact Or.inr ⟨hL, rfl⟩) dX7_depth_29 (by decide) (by decide)
set_option maxRecDepth 100000 in
set_option maxHeartbeats 4000000 in
theorem m_X7_parts (g : Geo) (l : Launch) (hl9 : l.stackTraces = false) (σ : St) (hR : RG σ) (n : Nat) (hMB : MB σ n) (a : Int) (ha : R32 a) : Met l yX7_parts wsX7_parts ({ frames := 2, cells := 0, slots := 0, locals := 43 }) (va_Pc [.ref (ga g (89)), .int (iN (a))] (World g σ)) (QI g (fun z u => ((0 ≤ a ∧ a < σ.1 89 11) ∧ z = prtM σ a.toNat ∧ u = sw σ 89 0 0) ∨ (¬ (0 ≤ a ∧ a < σ.1 89 11) ∧ u = sw σ 89 0 1))) 0 0 (gA g) := by
  refine V_met hl9 (by decide) rfl (Nat.le_of_ble_eq_true rfl) ?_
  intro p9 e9 s9 m9 b9 t9 c9 X hr _
  have hn := hMB.1
  have hn30 := hMB.2.1
  have hL4 : 0 ≤ σ.1 89 11 ∧ σ.1 89 11 ≤ 30 := by omega
  refine V_lv (lv' := [(0, .ref (ga g (89))), (1, .int (iN (a)))]) rfl ?_
  refine V_aload_n X 0 rfl dX7_parts_0 rfl ?_
  refine V_aload_n X 0 rfl dX7_parts_1 rfl ?_
  refine V_iload_n X 1 rfl dX7_parts_2 rfl ?_
  refine V_callV_I X (na := 1) (ci := 7) (b0 := 89) (by decide) (rfl) (by decide) rfl (m_X7_isNoLap g l hl9 σ hR a ha hL4) gX7_parts_X7_isNoLap rfl rfl rfl (by decide +kernel) ⟨Nat.le_of_ble_eq_true rfl, Nat.le_of_ble_eq_true rfl⟩ rfl rfl (Nat.le_of_ble_eq_true rfl) ⟨Nat.le_of_ble_eq_true rfl, Nat.le_of_ble_eq_true rfl⟩ dX7_parts_3 (fun z1 u2 z1r hp3 => ?_)
  obtain ⟨hz9, hu4⟩ := hp3
  have hu4 := hu4.symm
  subst hu4
  rcases Classical.em (0 ≤ a ∧ a < σ.1 89 11) with hL | hL
  · skip
    rw [if_pos hL] at hz9
    subst hz9
    refine V_if_eq X 13 ⟨by decide, by decide⟩ dX7_parts_6 (by decide) (fun _ => ?_) (fun h => absurd h (by first | decide | omega))
    refine V_iconst X dX7_parts_13 ?_
    refine V_callV_I X (na := 1) (ci := 7) (b0 := 89) (by decide) (rfl) (by decide) rfl (m_X7_fails g l hl9 σ hR 0 ⟨by decide, by decide⟩) gX7_parts_X7_fails rfl rfl rfl (by decide +kernel) ⟨Nat.le_of_ble_eq_true rfl, Nat.le_of_ble_eq_true rfl⟩ rfl rfl (Nat.le_of_ble_eq_true rfl) ⟨Nat.le_of_ble_eq_true rfl, Nat.le_of_ble_eq_true rfl⟩ dX7_parts_14 (fun z5 u6 z5r hp7 => ?_)
    obtain ⟨hz9, hu8⟩ := hp7
    have hu8 := hu8.symm
    subst hu8
    rw [if_neg (by decide)] at hz9
    subst hz9
    refine V_if_eq X 24 ⟨by decide, by decide⟩ dX7_parts_17 (by decide) (fun _ => ?_) (fun h => absurd h (by first | decide | omega))
    refine V_aload_n X 0 rfl dX7_parts_24 rfl ?_
    refine V_iload_n X 1 rfl dX7_parts_25 rfl ?_
    refine V_callV_I X (na := 1) (ci := 7) (b0 := 89) (by decide) (rfl) (by decide) rfl (m_X7_partsOf g l hl9 (sw σ 89 0 0) (hR.sw _ _ ⟨by decide, by decide⟩) n hMB a (by omega)) gX7_parts_X7_partsOf rfl rfl rfl (by decide +kernel) ⟨Nat.le_of_ble_eq_true rfl, Nat.le_of_ble_eq_true rfl⟩ rfl rfl (Nat.le_of_ble_eq_true rfl) ⟨Nat.le_of_ble_eq_true rfl, Nat.le_of_ble_eq_true rfl⟩ dX7_parts_26 (fun z9 u10 z9r hp11 => ?_)
    obtain ⟨hz, hu12⟩ := hp11
    have hu12 := hu12.symm
    subst hu12
    exact V_iret X hr rfl z9r (by exact Or.inl ⟨hL, hz, rfl⟩) dX7_parts_29 (by decide) (by decide)
  · skip
    rw [if_neg hL] at hz9
    subst hz9
    refine V_if_eq X 13 ⟨by decide, by decide⟩ dX7_parts_6 (by decide) (fun h => absurd h (by first | decide | omega)) (fun _ => ?_)
    refine V_iconst X dX7_parts_9 ?_
    refine V_goto X 14 dX7_parts_10 (by decide) ?_
    refine V_callV_I X (na := 1) (ci := 7) (b0 := 89) (by decide) (rfl) (by decide) rfl (m_X7_fails g l hl9 σ hR 1 ⟨by decide, by decide⟩) gX7_parts_X7_fails rfl rfl rfl (by decide +kernel) ⟨Nat.le_of_ble_eq_true rfl, Nat.le_of_ble_eq_true rfl⟩ rfl rfl (Nat.le_of_ble_eq_true rfl) ⟨Nat.le_of_ble_eq_true rfl, Nat.le_of_ble_eq_true rfl⟩ dX7_parts_14 (fun z13 u14 z13r hp15 => ?_)
    obtain ⟨hz9, hu16⟩ := hp15
    have hu16 := hu16.symm
    subst hu16
    rw [if_pos (by decide)] at hz9
    subst hz9
    refine V_if_eq X 24 ⟨by decide, by decide⟩ dX7_parts_17 (by decide) (fun h => absurd h (by first | decide | omega)) (fun _ => ?_)
    refine V_iconst X dX7_parts_20 ?_
    refine V_goto X 29 dX7_parts_21 (by decide) ?_
    exact V_iret X hr rfl ⟨by decide, by decide⟩ (by exact Or.inr ⟨hL, rfl⟩) dX7_parts_29 (by decide) (by decide)
set_option maxRecDepth 100000 in
set_option maxHeartbeats 4000000 in
theorem m_X7_allParts (g : Geo) (l : Launch) (hl9 : l.stackTraces = false) (σ : St) (hR : RG σ) (n : Nat) (hMB : MB σ n) : Met l yX7_allParts wsX7_allParts ({ frames := 1, cells := 0, slots := 0, locals := 23 }) (va_Pc [.ref (ga g (89))] (World g σ)) (QI g (fun z u => z = sumF (prtM σ) n ∧ u = σ)) 0 0 (gA g) := by
  refine V_met hl9 (by decide) rfl (Nat.le_of_ble_eq_true rfl) ?_
  intro p9 e9 s9 m9 b9 t9 c9 X hr _
  have hn := hMB.1
  have hn30 := hMB.2.1
  have hL4 : 0 ≤ σ.1 89 11 ∧ σ.1 89 11 ≤ 30 := by omega
  refine V_lv (lv' := [(0, .ref (ga g (89)))]) rfl ?_
  refine V_iconst X dX7_allParts_0 ?_
  refine V_istore_n X [(1, .int (iN (0))), (0, .ref (ga g (89)))] dX7_allParts_1 rfl (by decide) rfl ?_
  refine V_iconst X dX7_allParts_2 ?_
  refine V_istore_n X [(2, .int (iN (0))), (1, .int (iN (0))), (0, .ref (ga g (89)))] dX7_allParts_3 rfl (by decide) rfl ?_
  refine V_sub (lv' := [(0, .ref (ga g (89))), (1, .int (iN (0))), (2, .int (iN (0)))]) [2, 1, 0] rfl ?_
  refine V_up (N := n) (fun (i : Nat) (u : St) (lw : List (Nat × Value)) => σ = u ∧ [(0, .ref (ga g (89))), (1, .int (iN (sumF (prtM σ) i))), (2, .int (iN (((i : Nat) : Int))))] = lw ∧ (True)) (i0 := 0) (Nat.zero_le _) ⟨rfl, rfl, trivial⟩ ?_ ?_
  · skip
    rintro _ _ ⟨rfl, rfl, -⟩
    have hsb : 0 ≤ sumF (prtM σ) n ∧ sumF (prtM σ) n ≤ 60 * (n : Int) := sumF_b2 (c := 60) (fun l hl => hMB.prt hl) n (Nat.le_refl n)
    refine V_iload_n X 2 rfl dX7_allParts_4 rfl ?_
    refine V_aload_n X 0 rfl dX7_allParts_5 rfl ?_
    refine V_get X (ci := 7) (89) (by decide) (rfl) (by decide) rfl (fun _ h => List.mem_cons_of_mem _ (List.mem_append_right _ h)) 11 (by decide) (List.mem_of_getElem? (i := 1) rfl) rfl rfl dX7_allParts_6 ?_
    refine V_icmp_ge X 26 ⟨by omega, by omega⟩ (hR _ _) dX7_allParts_9 (by decide) (fun _ => ?_) (fun h => absurd h (by omega))
    refine V_iload_n X 1 rfl dX7_allParts_26 rfl ?_
    exact V_iret X hr rfl ⟨by omega, by omega⟩ (by exact ⟨rfl, rfl⟩) dX7_allParts_27 (by decide) (by decide)
  · skip
    rintro i _ _ hiN ⟨rfl, rfl, -⟩ kk
    refine V_iload_n X 2 rfl dX7_allParts_4 rfl ?_
    refine V_aload_n X 0 rfl dX7_allParts_5 rfl ?_
    refine V_get X (ci := 7) (89) (by decide) (rfl) (by decide) rfl (fun _ h => List.mem_cons_of_mem _ (List.mem_append_right _ h)) 11 (by decide) (List.mem_of_getElem? (i := 1) rfl) rfl rfl dX7_allParts_6 ?_
    refine V_icmp_ge X 26 ⟨by omega, by omega⟩ (hR _ _) dX7_allParts_9 (by decide) (fun h => absurd h (by omega)) (fun _ => ?_)
    refine V_iload_n X 1 rfl dX7_allParts_12 rfl ?_
    refine V_aload_n X 0 rfl dX7_allParts_13 rfl ?_
    refine V_iload_n X 2 rfl dX7_allParts_14 rfl ?_
    refine V_callV_I X (na := 1) (ci := 7) (b0 := 89) (by decide) (rfl) (by decide) rfl (m_X7_partsOf g l hl9 σ hR n hMB ((i : Nat) : Int) (by omega)) gX7_allParts_X7_partsOf rfl rfl rfl (by decide +kernel) ⟨Nat.le_of_ble_eq_true rfl, Nat.le_of_ble_eq_true rfl⟩ rfl rfl (Nat.le_of_ble_eq_true rfl) ⟨Nat.le_of_ble_eq_true rfl, Nat.le_of_ble_eq_true rfl⟩ dX7_allParts_15 (fun z1 u2 z1r hp3 => ?_)
    obtain ⟨hz, hu4⟩ := hp3
    have hu4 := hu4.symm
    subst hu4
    have hz2 : z1 = prtM σ i := hz
    subst hz2
    refine V_iadd X dX7_allParts_18 ?_
    refine V_istore_n X [(1, .int (iN ((sumF (prtM σ) i) + (prtM σ i)))), (0, .ref (ga g (89))), (2, .int (iN (((i : Nat) : Int))))] dX7_allParts_19 rfl (by decide) rfl ?_
    refine V_iinc X [(2, .int (iN (((i : Nat) : Int) + 1))), (1, .int (iN ((sumF (prtM σ) i) + (prtM σ i)))), (0, .ref (ga g (89)))] 2 (((i : Nat) : Int) + 1) (rfl) rfl dX7_allParts_20 (by decide) rfl ?_
    refine V_goto X 4 dX7_allParts_23 (by decide) ?_
    refine V_sub (lv' := [(0, .ref (ga g (89))), (1, .int (iN ((sumF (prtM σ) i) + (prtM σ i)))), (2, .int (iN (((i : Nat) : Int) + 1)))]) [2, 1, 0] rfl ?_
    refine V_lv (congrArg (fun q : Int => ([(0, .ref (ga g (89))), (1, .int (iN q)), (2, .int (iN (((i : Nat) : Int) + 1)))] : List (Nat × Value))) (show (sumF (prtM σ) i) + (prtM σ i) = sumF (prtM σ) (i + 1) from rfl)) ?_
    refine V_lv (congrArg (fun q : Int => ([(0, .ref (ga g (89))), (1, .int (iN (sumF (prtM σ) (i + 1)))), (2, .int (iN q))] : List (Nat × Value))) (show ((i : Nat) : Int) + 1 = (((i + 1) : Nat) : Int) from by omega)) ?_
    exact kk _ _ ⟨rfl, rfl, trivial⟩
set_option maxRecDepth 100000 in
set_option maxHeartbeats 4000000 in
theorem m_X7_stored (g : Geo) (l : Launch) (hl9 : l.stackTraces = false) (σ : St) (hR : RG σ) (n : Nat) (hMB : MB σ n) : Met l yX7_stored wsX7_stored ({ frames := 2, cells := 0, slots := 0, locals := 45 }) (va_Pc [.ref (ga g (89))] (World g σ)) (QI g (fun z u => z = sumF (prtM σ) n ∧ u = sw σ 89 0 0)) 0 0 (gA g) := by
  refine V_met hl9 (by decide) rfl (Nat.le_of_ble_eq_true rfl) ?_
  intro p9 e9 s9 m9 b9 t9 c9 X hr _
  refine V_lv (lv' := [(0, .ref (ga g (89)))]) rfl ?_
  refine V_aload_n X 0 rfl dX7_stored_0 rfl ?_
  refine V_iconst X dX7_stored_1 ?_
  refine V_put X (ci := 7) (89) (by decide) (rfl) (by decide) rfl (fun _ h => List.mem_cons_of_mem _ (List.mem_append_right _ h)) 0 (by decide) (List.mem_of_getElem? (i := 1) rfl) rfl tyX7 tyX7_ok nmX7 rfl rfl rfl rfl rfl (Nat.le_of_ble_eq_true rfl) dX7_stored_2 ?_
  refine V_aload_n X 0 rfl dX7_stored_5 rfl ?_
  refine V_callV_I X (na := 0) (ci := 7) (b0 := 89) (by decide) (rfl) (by decide) rfl (m_X7_allParts g l hl9 (sw σ 89 0 0) (hR.sw _ _ ⟨by decide, by decide⟩) n hMB) gX7_stored_X7_allParts rfl rfl rfl (by decide +kernel) ⟨Nat.le_of_ble_eq_true rfl, Nat.le_of_ble_eq_true rfl⟩ rfl rfl (Nat.le_of_ble_eq_true rfl) ⟨Nat.le_of_ble_eq_true rfl, Nat.le_of_ble_eq_true rfl⟩ dX7_stored_6 (fun z1 u2 z1r hp3 => ?_)
  obtain ⟨hz, hu4⟩ := hp3
  have hu4 := hu4.symm
  subst hu4
  exact V_iret X hr rfl z1r (by exact ⟨hz, rfl⟩) dX7_stored_9 (by decide) (by decide)
set_option maxRecDepth 100000 in
set_option maxHeartbeats 4000000 in
theorem m_X7_rests (g : Geo) (l : Launch) (hl9 : l.stackTraces = false) (σ : St) (hR : RG σ) (n : Nat) (hn30 : n ≤ 30) (D : Nat → Int) (hMD : MD σ n D) (a b : Int) (ha : 0 ≤ a ∧ a < n) (hb : R32 b) (hb0 : 0 ≤ b) : Met l yX7_rests wsX7_rests ({ frames := 0, cells := 0, slots := 0, locals := 0 }) (va_Pc [.ref (ga g (89)), .int (iN (a)), .int (iN (b))] (World g σ)) (QI g (fun z u => z = rstI σ a.toNat b ∧ u = σ)) 0 0 (gA g) := by
  refine V_met hl9 (by decide) rfl (Nat.le_of_ble_eq_true rfl) ?_
  intro p9 e9 s9 m9 b9 t9 c9 X hr _
  have hd0 := (hMD a.toNat (by omega)).1
  have hcE := chS_end hMD (l := a.toNat) (by omega)
  obtain ⟨kx, hx1, hx2, hx3⟩ := first_of (P := fun k => chS σ a.toNat k = -1 ∨ chS σ a.toNat k = b) (D a.toNat).toNat (Or.inl hcE)
  have hcx := chS_D hMD (l := a.toNat) (by omega) kx (by omega)
  refine V_lv (lv' := [(0, .ref (ga g (89))), (1, .int (iN (a))), (2, .int (iN (b)))]) rfl ?_
  refine V_aload_n X 0 rfl dX7_rests_0 rfl ?_
  refine V_get X (ci := 7) (89) (by decide) (rfl) (by decide) rfl (fun _ h => List.mem_cons_of_mem _ (List.mem_append_right _ h)) 21 (by decide) (List.mem_of_getElem? (i := 1) rfl) rfl rfl dX7_rests_1 ?_
  refine V_iload_n X 1 rfl dX7_rests_4 rfl ?_
  refine V_iald X (N := 30) (106) (by decide) (rfl) (rfl) (by decide) (a.toNat) (by omega) (by omega) dX7_rests_5 ?_
  refine V_istore_n X [(3, .int (iN (σ.1 (106) (a.toNat)))), (0, .ref (ga g (89))), (1, .int (iN (a))), (2, .int (iN (b)))] dX7_rests_6 rfl (by decide) rfl ?_
  refine V_sub (lv' := [(0, .ref (ga g (89))), (1, .int (iN (a))), (2, .int (iN (b))), (3, .int (iN (σ.1 (106) (a.toNat))))]) [1, 2, 3, 0] rfl ?_
  refine V_up (N := kx) (fun (i : Nat) (u : St) (lw : List (Nat × Value)) => σ = u ∧ [(0, .ref (ga g (89))), (1, .int (iN (a))), (2, .int (iN (b))), (3, .int (iN (chS σ a.toNat i)))] = lw ∧ (True)) (i0 := 0) (Nat.zero_le _) ⟨rfl, rfl, trivial⟩ ?_ ?_
  · skip
    rintro _ _ ⟨rfl, rfl, -⟩
    refine V_iload_n X 3 rfl dX7_rests_7 rfl ?_
    refine V_iconst X dX7_rests_8 ?_
    refine V_icmp_eq X 27 ⟨by omega, by omega⟩ ⟨by decide, by decide⟩ dX7_rests_9 (by decide) (fun q1 => ?_) (fun q1 => ?_)
    · skip
      refine V_iload_n X 3 rfl dX7_rests_27 rfl ?_
      refine V_iconst X dX7_rests_28 ?_
      refine V_icmp_eq X 36 ⟨by omega, by omega⟩ ⟨by decide, by decide⟩ dX7_rests_29 (by decide) (fun q2 => ?_) (fun q2 => ?_)
      · skip
        refine V_iconst X dX7_rests_36 ?_
        exact V_iret X hr (iN_bool (Or.inl rfl)).1 ⟨by decide, by decide⟩ (by exact ⟨(rstI_n (rst_no hb0 (by omega) hx3)).symm, rfl⟩) dX7_rests_37 (by decide) (by decide)
      · skip
        refine V_iconst X dX7_rests_32 ?_
        refine V_goto X 37 dX7_rests_33 (by decide) ?_
        exact V_iret X hr (iN_bool (Or.inr rfl)).1 ⟨by decide, by decide⟩ (by exact ⟨(rstI_y ⟨kx, by omega⟩).symm, rfl⟩) dX7_rests_37 (by decide) (by decide)
    · skip
      refine V_iload_n X 3 rfl dX7_rests_12 rfl ?_
      refine V_iload_n X 2 rfl dX7_rests_13 rfl ?_
      refine V_icmp_eq X 27 ⟨by omega, by omega⟩ hb dX7_rests_14 (by decide) (fun _ => ?_) (fun h => absurd h (by omega))
      refine V_iload_n X 3 rfl dX7_rests_27 rfl ?_
      refine V_iconst X dX7_rests_28 ?_
      refine V_icmp_eq X 36 ⟨by omega, by omega⟩ ⟨by decide, by decide⟩ dX7_rests_29 (by decide) (fun q3 => ?_) (fun q3 => ?_)
      · skip
        refine V_iconst X dX7_rests_36 ?_
        exact V_iret X hr (iN_bool (Or.inl rfl)).1 ⟨by decide, by decide⟩ (by exact ⟨(rstI_n (rst_no hb0 (by omega) hx3)).symm, rfl⟩) dX7_rests_37 (by decide) (by decide)
      · skip
        refine V_iconst X dX7_rests_32 ?_
        refine V_goto X 37 dX7_rests_33 (by decide) ?_
        exact V_iret X hr (iN_bool (Or.inr rfl)).1 ⟨by decide, by decide⟩ (by exact ⟨(rstI_y ⟨kx, by omega⟩).symm, rfl⟩) dX7_rests_37 (by decide) (by decide)
  · skip
    rintro i _ _ hiN ⟨rfl, rfl, -⟩ kk
    have hcd := chS_D hMD (l := a.toNat) (by omega) i (by omega)
    have hni := hx3 i hiN
    refine V_iload_n X 3 rfl dX7_rests_7 rfl ?_
    refine V_iconst X dX7_rests_8 ?_
    refine V_icmp_eq X 27 ⟨by omega, by omega⟩ ⟨by decide, by decide⟩ dX7_rests_9 (by decide) (fun h => absurd h (by omega)) (fun _ => ?_)
    refine V_iload_n X 3 rfl dX7_rests_12 rfl ?_
    refine V_iload_n X 2 rfl dX7_rests_13 rfl ?_
    refine V_icmp_eq X 27 ⟨by omega, by omega⟩ hb dX7_rests_14 (by decide) (fun h => absurd h (by omega)) (fun _ => ?_)
    refine V_aload_n X 0 rfl dX7_rests_17 rfl ?_
    refine V_get X (ci := 7) (89) (by decide) (rfl) (by decide) rfl (fun _ h => List.mem_cons_of_mem _ (List.mem_append_right _ h)) 21 (by decide) (List.mem_of_getElem? (i := 1) rfl) rfl rfl dX7_rests_18 ?_
    refine V_iload_n X 3 rfl dX7_rests_21 rfl ?_
    refine V_iald X (N := 30) (106) (by decide) (rfl) (rfl) (by decide) ((chS σ a.toNat i).toNat) (by omega) (by omega) dX7_rests_22 ?_
    refine V_istore_n X [(3, .int (iN (σ.1 (106) ((chS σ a.toNat i).toNat)))), (0, .ref (ga g (89))), (1, .int (iN (a))), (2, .int (iN (b)))] dX7_rests_23 rfl (by decide) rfl ?_
    refine V_goto X 7 dX7_rests_24 (by decide) ?_
    refine V_sub (lv' := [(0, .ref (ga g (89))), (1, .int (iN (a))), (2, .int (iN (b))), (3, .int (iN (σ.1 (106) ((chS σ a.toNat i).toNat))))]) [1, 2, 3, 0] rfl ?_
    refine V_lv (congrArg (fun q : Int => ([(0, .ref (ga g (89))), (1, .int (iN (a))), (2, .int (iN (b))), (3, .int (iN q))] : List (Nat × Value))) (show σ.1 (106) ((chS σ a.toNat i).toNat) = chS σ a.toNat (i + 1) from by rw [chS, if_neg (by omega)])) ?_
    exact kk _ _ ⟨rfl, rfl, trivial⟩
set_option maxRecDepth 100000 in
set_option maxHeartbeats 4000000 in
theorem m_X7_resting (g : Geo) (l : Launch) (hl9 : l.stackTraces = false) (σ : St) (hR : RG σ) (n : Nat) (hMB : MB σ n) (D : Nat → Int) (hMD : MD σ n D) (a : Int) (ha : R32 a) : Met l yX7_resting wsX7_resting ({ frames := 2, cells := 0, slots := 0, locals := 43 }) (va_Pc [.ref (ga g (89)), .int (iN (a))] (World g σ)) (QI g (fun z u => ((0 ≤ a ∧ a < σ.1 89 11) ∧ z = sumF (fun l => rstI σ l a) n ∧ u = sw σ 89 0 0) ∨ (¬ (0 ≤ a ∧ a < σ.1 89 11) ∧ u = sw σ 89 0 1))) 0 0 (gA g) := by
  refine V_met hl9 (by decide) rfl (Nat.le_of_ble_eq_true rfl) ?_
  intro p9 e9 s9 m9 b9 t9 c9 X hr _
  have hn := hMB.1
  have hn30 := hMB.2.1
  have hL4 : 0 ≤ σ.1 89 11 ∧ σ.1 89 11 ≤ 30 := by omega
  refine V_lv (lv' := [(0, .ref (ga g (89))), (1, .int (iN (a)))]) rfl ?_
  refine V_aload_n X 0 rfl dX7_resting_0 rfl ?_
  refine V_aload_n X 0 rfl dX7_resting_1 rfl ?_
  refine V_iload_n X 1 rfl dX7_resting_2 rfl ?_
  refine V_callV_I X (na := 1) (ci := 7) (b0 := 89) (by decide) (rfl) (by decide) rfl (m_X7_isNoLap g l hl9 σ hR a ha hL4) gX7_resting_X7_isNoLap rfl rfl rfl (by decide +kernel) ⟨Nat.le_of_ble_eq_true rfl, Nat.le_of_ble_eq_true rfl⟩ rfl rfl (Nat.le_of_ble_eq_true rfl) ⟨Nat.le_of_ble_eq_true rfl, Nat.le_of_ble_eq_true rfl⟩ dX7_resting_3 (fun z1 u2 z1r hp3 => ?_)
  obtain ⟨hz9, hu4⟩ := hp3
  have hu4 := hu4.symm
  subst hu4
  rcases Classical.em (0 ≤ a ∧ a < σ.1 89 11) with hL | hL
  · skip
    rw [if_pos hL] at hz9
    subst hz9
    refine V_if_eq X 13 ⟨by decide, by decide⟩ dX7_resting_6 (by decide) (fun _ => ?_) (fun h => absurd h (by first | decide | omega))
    refine V_iconst X dX7_resting_13 ?_
    refine V_callV_I X (na := 1) (ci := 7) (b0 := 89) (by decide) (rfl) (by decide) rfl (m_X7_fails g l hl9 σ hR 0 ⟨by decide, by decide⟩) gX7_resting_X7_fails rfl rfl rfl (by decide +kernel) ⟨Nat.le_of_ble_eq_true rfl, Nat.le_of_ble_eq_true rfl⟩ rfl rfl (Nat.le_of_ble_eq_true rfl) ⟨Nat.le_of_ble_eq_true rfl, Nat.le_of_ble_eq_true rfl⟩ dX7_resting_14 (fun z5 u6 z5r hp7 => ?_)
    obtain ⟨hz9, hu8⟩ := hp7
    have hu8 := hu8.symm
    subst hu8
    rw [if_neg (by decide)] at hz9
    subst hz9
    refine V_if_eq X 22 ⟨by decide, by decide⟩ dX7_resting_17 (by decide) (fun _ => ?_) (fun h => absurd h (by first | decide | omega))
    refine V_iconst X dX7_resting_22 ?_
    refine V_istore_n X [(2, .int (iN (0))), (0, .ref (ga g (89))), (1, .int (iN (a)))] dX7_resting_23 rfl (by decide) rfl ?_
    refine V_iconst X dX7_resting_24 ?_
    refine V_istore_n X [(3, .int (iN (0))), (2, .int (iN (0))), (0, .ref (ga g (89))), (1, .int (iN (a)))] dX7_resting_25 rfl (by decide) rfl ?_
    refine V_sub (lv' := [(0, .ref (ga g (89))), (1, .int (iN (a))), (2, .int (iN (0))), (3, .int (iN (0)))]) [2, 3, 1, 0] rfl ?_
    refine V_up (N := n) (fun (i : Nat) (u : St) (lw : List (Nat × Value)) => sw σ (89) (0) (0) = u ∧ [(0, .ref (ga g (89))), (1, .int (iN (a))), (2, .int (iN (sumF (fun l => rstI σ l a) i))), (3, .int (iN (((i : Nat) : Int))))] = lw ∧ (True)) (i0 := 0) (Nat.zero_le _) ⟨rfl, rfl, trivial⟩ ?_ ?_
    · skip
      rintro _ _ ⟨rfl, rfl, -⟩
      have hsb := sumF_b2 (f := fun l => rstI σ l a) (c := 1) (m := n) (fun l _ => rstI_b) n (Nat.le_refl n)
      refine V_iload_n X 3 rfl dX7_resting_26 rfl ?_
      refine V_aload_n X 0 rfl dX7_resting_27 rfl ?_
      refine V_get X (ci := 7) (89) (by decide) (rfl) (by decide) rfl (fun _ h => List.mem_cons_of_mem _ (List.mem_append_right _ h)) 11 (by decide) (List.mem_of_getElem? (i := 1) rfl) rfl rfl dX7_resting_28 ?_
      refine V_top (b := σ.1 89 11) (rd_k (by decide)) ?_
      refine V_icmp_ge X 57 ⟨by omega, by omega⟩ (hR _ _) dX7_resting_31 (by decide) (fun _ => ?_) (fun h => absurd h (by omega))
      refine V_iload_n X 2 rfl dX7_resting_57 rfl ?_
      exact V_iret X hr rfl ⟨by omega, by omega⟩ (by exact Or.inl ⟨hL, rfl, rfl⟩) dX7_resting_58 (by decide) (by decide)
    · skip
      rintro i _ _ hiN ⟨rfl, rfl, -⟩ kk
      have hsb := sumF_b2 (f := fun l => rstI σ l a) (c := 1) (m := n) (fun l _ => rstI_b) i (by omega)
      refine V_iload_n X 3 rfl dX7_resting_26 rfl ?_
      refine V_aload_n X 0 rfl dX7_resting_27 rfl ?_
      refine V_get X (ci := 7) (89) (by decide) (rfl) (by decide) rfl (fun _ h => List.mem_cons_of_mem _ (List.mem_append_right _ h)) 11 (by decide) (List.mem_of_getElem? (i := 1) rfl) rfl rfl dX7_resting_28 ?_
      refine V_top (b := σ.1 89 11) (rd_k (by decide)) ?_
      refine V_icmp_ge X 57 ⟨by omega, by omega⟩ (hR _ _) dX7_resting_31 (by decide) (fun h => absurd h (by omega)) (fun _ => ?_)
      refine V_iload_n X 2 rfl dX7_resting_34 rfl ?_
      refine V_aload_n X 0 rfl dX7_resting_35 rfl ?_
      refine V_iload_n X 3 rfl dX7_resting_36 rfl ?_
      refine V_iload_n X 1 rfl dX7_resting_37 rfl ?_
      refine V_callV_I X (na := 2) (ci := 7) (b0 := 89) (by decide) (rfl) (by decide) rfl (m_X7_rests g l hl9 (sw σ 89 0 0) (hR.sw _ _ ⟨by decide, by decide⟩) n hn30 D hMD ((i : Nat) : Int) a (by omega) ha (by omega)) gX7_resting_X7_rests rfl rfl rfl (by decide +kernel) ⟨Nat.le_of_ble_eq_true rfl, Nat.le_of_ble_eq_true rfl⟩ rfl rfl (Nat.le_of_ble_eq_true rfl) ⟨Nat.le_of_ble_eq_true rfl, Nat.le_of_ble_eq_true rfl⟩ dX7_resting_38 (fun z9 u10 z9r hp11 => ?_)
      obtain ⟨hz, hu12⟩ := hp11
      have hu12 := hu12.symm
      subst hu12
      have hz : z9 = rstI σ i a := hz.trans (rstI_eq rfl)
      rcases Classical.em (z9 = 0) with hq | hq
      · skip
        subst hq
        refine V_if_eq X 48 ⟨by decide, by decide⟩ dX7_resting_41 (by decide) (fun _ => ?_) (fun h => absurd h (by first | decide | omega))
        refine V_iconst X dX7_resting_48 ?_
        refine V_iadd X dX7_resting_49 ?_
        refine V_istore_n X [(2, .int (iN ((sumF (fun l => rstI σ l a) i) + 0))), (0, .ref (ga g (89))), (1, .int (iN (a))), (3, .int (iN (((i : Nat) : Int))))] dX7_resting_50 rfl (by decide) rfl ?_
        refine V_iinc X [(3, .int (iN (((i : Nat) : Int) + 1))), (2, .int (iN ((sumF (fun l => rstI σ l a) i) + 0))), (0, .ref (ga g (89))), (1, .int (iN (a)))] 3 (((i : Nat) : Int) + 1) (rfl) rfl dX7_resting_51 (by decide) rfl ?_
        refine V_goto X 26 dX7_resting_54 (by decide) ?_
        refine V_sub (lv' := [(0, .ref (ga g (89))), (1, .int (iN (a))), (2, .int (iN ((sumF (fun l => rstI σ l a) i) + 0))), (3, .int (iN (((i : Nat) : Int) + 1)))]) [2, 3, 1, 0] rfl ?_
        refine V_lv (congrArg (fun q : Int => ([(0, .ref (ga g (89))), (1, .int (iN (a))), (2, .int (iN q)), (3, .int (iN (((i : Nat) : Int) + 1)))] : List (Nat × Value))) (show (sumF (fun l => rstI σ l a) i) + 0 = sumF (fun l => rstI σ l a) (i + 1) from by show _ = sumF _ i + rstI _ _ _; rw [← hz])) ?_
        refine V_lv (congrArg (fun q : Int => ([(0, .ref (ga g (89))), (1, .int (iN (a))), (2, .int (iN (sumF (fun l => rstI σ l a) (i + 1)))), (3, .int (iN q))] : List (Nat × Value))) (show ((i : Nat) : Int) + 1 = (((i + 1) : Nat) : Int) from by omega)) ?_
        exact kk _ _ ⟨rfl, rfl, trivial⟩
      · skip
        have hq1 : z9 = 1 := by have := rstI_b (σ := σ) (l := i) (on := a); omega
        subst hq1
        refine V_if_eq X 48 ⟨by decide, by decide⟩ dX7_resting_41 (by decide) (fun h => absurd h (by first | decide | omega)) (fun _ => ?_)
        refine V_iconst X dX7_resting_44 ?_
        refine V_goto X 49 dX7_resting_45 (by decide) ?_
        refine V_iadd X dX7_resting_49 ?_
        refine V_istore_n X [(2, .int (iN ((sumF (fun l => rstI σ l a) i) + 1))), (0, .ref (ga g (89))), (1, .int (iN (a))), (3, .int (iN (((i : Nat) : Int))))] dX7_resting_50 rfl (by decide) rfl ?_
        refine V_iinc X [(3, .int (iN (((i : Nat) : Int) + 1))), (2, .int (iN ((sumF (fun l => rstI σ l a) i) + 1))), (0, .ref (ga g (89))), (1, .int (iN (a)))] 3 (((i : Nat) : Int) + 1) (rfl) rfl dX7_resting_51 (by decide) rfl ?_
        refine V_goto X 26 dX7_resting_54 (by decide) ?_
        refine V_sub (lv' := [(0, .ref (ga g (89))), (1, .int (iN (a))), (2, .int (iN ((sumF (fun l => rstI σ l a) i) + 1))), (3, .int (iN (((i : Nat) : Int) + 1)))]) [2, 3, 1, 0] rfl ?_
        refine V_lv (congrArg (fun q : Int => ([(0, .ref (ga g (89))), (1, .int (iN (a))), (2, .int (iN q)), (3, .int (iN (((i : Nat) : Int) + 1)))] : List (Nat × Value))) (show (sumF (fun l => rstI σ l a) i) + 1 = sumF (fun l => rstI σ l a) (i + 1) from by show _ = sumF _ i + rstI _ _ _; rw [← hz])) ?_
        refine V_lv (congrArg (fun q : Int => ([(0, .ref (ga g (89))), (1, .int (iN (a))), (2, .int (iN (sumF (fun l => rstI σ l a) (i + 1)))), (3, .int (iN q))] : List (Nat × Value))) (show ((i : Nat) : Int) + 1 = (((i + 1) : Nat) : Int) from by omega)) ?_
        exact kk _ _ ⟨rfl, rfl, trivial⟩
  · skip
    rw [if_neg hL] at hz9
    subst hz9
    refine V_if_eq X 13 ⟨by decide, by decide⟩ dX7_resting_6 (by decide) (fun h => absurd h (by first | decide | omega)) (fun _ => ?_)
    refine V_iconst X dX7_resting_9 ?_
    refine V_goto X 14 dX7_resting_10 (by decide) ?_
    refine V_callV_I X (na := 1) (ci := 7) (b0 := 89) (by decide) (rfl) (by decide) rfl (m_X7_fails g l hl9 σ hR 1 ⟨by decide, by decide⟩) gX7_resting_X7_fails rfl rfl rfl (by decide +kernel) ⟨Nat.le_of_ble_eq_true rfl, Nat.le_of_ble_eq_true rfl⟩ rfl rfl (Nat.le_of_ble_eq_true rfl) ⟨Nat.le_of_ble_eq_true rfl, Nat.le_of_ble_eq_true rfl⟩ dX7_resting_14 (fun z13 u14 z13r hp15 => ?_)
    obtain ⟨hz9, hu16⟩ := hp15
    have hu16 := hu16.symm
    subst hu16
    rw [if_pos (by decide)] at hz9
    subst hz9
    refine V_if_eq X 22 ⟨by decide, by decide⟩ dX7_resting_17 (by decide) (fun h => absurd h (by first | decide | omega)) (fun _ => ?_)
    refine V_iconst X dX7_resting_20 ?_
    exact V_iret X hr rfl ⟨by decide, by decide⟩ (by exact Or.inr ⟨hL, rfl⟩) dX7_resting_21 (by decide) (by decide)
set_option maxRecDepth 100000 in
set_option maxHeartbeats 4000000 in
theorem m_X7_strike (g : Geo) (l : Launch) (hl9 : l.stackTraces = false) (σ : St) (hR : RG σ) (n : Nat) (hMB : MB σ n) (a : Int) (ha : R32 a) : Met l yX7_strike wsX7_strike ({ frames := 2, cells := 0, slots := 0, locals := 43 }) (va_Pc [.ref (ga g (89)), .int (iN (a))] (World g σ)) (QI g (fun z u => ((0 ≤ a ∧ a < σ.1 89 11) ∧ σ.1 107 a.toNat = 0 ∧ z = sumF (fun l => if σ.1 106 l = a then 1 else 0) n ∧ u = mvM (skM σ a.toNat) a (σ.1 106 a.toNat) n) ∨ (¬ (0 ≤ a ∧ a < σ.1 89 11) ∧ u = sw σ 89 0 1) ∨ ((0 ≤ a ∧ a < σ.1 89 11) ∧ ¬ σ.1 107 a.toNat = 0 ∧ u = sw σ 89 0 2))) 0 0 (gA g) := by
  refine V_met hl9 (by decide) rfl (Nat.le_of_ble_eq_true rfl) ?_
  intro p9 e9 s9 m9 b9 t9 c9 X hr _
  have hn := hMB.1
  have hn30 := hMB.2.1
  have hL4 : 0 ≤ σ.1 89 11 ∧ σ.1 89 11 ≤ 30 := by omega
  refine V_lv (lv' := [(0, .ref (ga g (89))), (1, .int (iN (a)))]) rfl ?_
  refine V_aload_n X 0 rfl dX7_strike_0 rfl ?_
  refine V_aload_n X 0 rfl dX7_strike_1 rfl ?_
  refine V_iload_n X 1 rfl dX7_strike_2 rfl ?_
  refine V_callV_I X (na := 1) (ci := 7) (b0 := 89) (by decide) (rfl) (by decide) rfl (m_X7_isNoLap g l hl9 σ hR a ha hL4) gX7_strike_X7_isNoLap rfl rfl rfl (by decide +kernel) ⟨Nat.le_of_ble_eq_true rfl, Nat.le_of_ble_eq_true rfl⟩ rfl rfl (Nat.le_of_ble_eq_true rfl) ⟨Nat.le_of_ble_eq_true rfl, Nat.le_of_ble_eq_true rfl⟩ dX7_strike_3 (fun z1 u2 z1r hp3 => ?_)
  obtain ⟨hz9, hu4⟩ := hp3
  have hu4 := hu4.symm
  subst hu4
  rcases Classical.em (0 ≤ a ∧ a < σ.1 89 11) with hL | hL
  · skip
    rw [if_pos hL] at hz9
    subst hz9
    refine V_if_eq X 13 ⟨by decide, by decide⟩ dX7_strike_6 (by decide) (fun _ => ?_) (fun h => absurd h (by first | decide | omega))
    refine V_aload_n X 0 rfl dX7_strike_13 rfl ?_
    refine V_get X (ci := 7) (89) (by decide) (rfl) (by decide) rfl (fun _ h => List.mem_cons_of_mem _ (List.mem_append_right _ h)) 22 (by decide) (List.mem_of_getElem? (i := 1) rfl) rfl rfl dX7_strike_14 ?_
    refine V_iload_n X 1 rfl dX7_strike_17 rfl ?_
    have htt := hMB.2.2 a.toNat (by omega)
    have hbb := htt.2.2.2.2.1
    refine V_zald X (N := 30) (107) (by decide) (rfl) (rfl) (by decide) (a.toNat) (by omega) (by omega) dX7_strike_18 ?_
    refine V_if_eq X 26 (hR _ _) dX7_strike_19 (by decide) (fun q5 => ?_) (fun q5 => ?_)
    · skip
      refine V_iconst X dX7_strike_26 ?_
      refine V_callV_I X (na := 1) (ci := 7) (b0 := 89) (by decide) (rfl) (by decide) rfl (m_X7_fails g l hl9 σ hR 0 ⟨by decide, by decide⟩) gX7_strike_X7_fails rfl rfl rfl (by decide +kernel) ⟨Nat.le_of_ble_eq_true rfl, Nat.le_of_ble_eq_true rfl⟩ rfl rfl (Nat.le_of_ble_eq_true rfl) ⟨Nat.le_of_ble_eq_true rfl, Nat.le_of_ble_eq_true rfl⟩ dX7_strike_27 (fun z6 u7 z6r hp8 => ?_)
      obtain ⟨hz9, hu9⟩ := hp8
      have hu9 := hu9.symm
      subst hu9
      rw [if_neg (by decide)] at hz9
      subst hz9
      refine V_if_eq X 35 ⟨by decide, by decide⟩ dX7_strike_30 (by decide) (fun _ => ?_) (fun h => absurd h (by first | decide | omega))
      refine V_aload_n X 0 rfl dX7_strike_35 rfl ?_
      refine V_get X (ci := 7) (89) (by decide) (rfl) (by decide) rfl (fun _ h => List.mem_cons_of_mem _ (List.mem_append_right _ h)) 22 (by decide) (List.mem_of_getElem? (i := 1) rfl) rfl rfl dX7_strike_36 ?_
      refine V_iload_n X 1 rfl dX7_strike_39 rfl ?_
      refine V_iconst X dX7_strike_40 ?_
      refine V_zast X (N := 30) (107) (by decide) (rfl) (rfl) (by decide) (a.toNat) (by omega) (by omega) (Or.inr rfl) dX7_strike_41 ?_
      obtain ⟨w, hw⟩ : ∃ w, w = skM σ a.toNat := ⟨_, rfl⟩
      refine V_st (σ' := w) hw.symm ?_
      have hRw : RG w := by rw [hw]; exact (hR.sw _ _ ⟨by decide, by decide⟩).sw _ _ ⟨by decide, by decide⟩
      have hw6 : w.1 106 = σ.1 106 := by rw [hw]; rfl
      have hw11 : w.1 89 11 = (n : Int) := by rw [hw]; exact hn
      refine V_iconst X dX7_strike_42 ?_
      refine V_istore_n X [(2, .int (iN (0))), (0, .ref (ga g (89))), (1, .int (iN (a)))] dX7_strike_43 rfl (by decide) rfl ?_
      refine V_iconst X dX7_strike_44 ?_
      refine V_istore_n X [(3, .int (iN (0))), (2, .int (iN (0))), (0, .ref (ga g (89))), (1, .int (iN (a)))] dX7_strike_45 rfl (by decide) rfl ?_
      refine V_sub (lv' := [(0, .ref (ga g (89))), (1, .int (iN (a))), (2, .int (iN (0))), (3, .int (iN (0)))]) [2, 3, 1, 0] rfl ?_
      refine V_up (N := n) (fun (i : Nat) (u : St) (lw : List (Nat × Value)) => True ∧ [(0, .ref (ga g (89))), (1, .int (iN (a))), (2, .int (iN (sumF (fun l => if σ.1 106 l = a then 1 else 0) i))), (3, .int (iN (((i : Nat) : Int))))] = lw ∧ (u = mvM w a (σ.1 106 a.toNat) i)) (i0 := 0) (Nat.zero_le _) ⟨trivial, rfl, mvM_0.symm⟩ ?_ ?_
      · skip
        rintro u1 _ ⟨-, rfl, hv⟩
        have hRu : RG u1 := hv ▸ mvM_RG hRw (hR _ _)
        have hsb := sumF_b2 (f := fun l => if σ.1 106 l = a then (1 : Int) else 0) (c := 1) (m := n) (fun l _ => by split <;> omega) n (by omega)
        refine V_iload_n X 3 rfl dX7_strike_46 rfl ?_
        refine V_aload_n X 0 rfl dX7_strike_47 rfl ?_
        refine V_get X (ci := 7) (89) (by decide) (rfl) (by decide) rfl (fun _ h => List.mem_cons_of_mem _ (List.mem_append_right _ h)) 11 (by decide) (List.mem_of_getElem? (i := 2) rfl) rfl rfl dX7_strike_48 ?_
        refine V_top (b := ((n : Nat) : Int)) (by rw [hv, mvM_n (by decide)]; exact hw11) ?_
        refine V_icmp_ge X 85 ⟨by omega, by omega⟩ ⟨by omega, by omega⟩ dX7_strike_51 (by decide) (fun _ => ?_) (fun h => absurd h (by omega))
        refine V_iload_n X 2 rfl dX7_strike_85 rfl ?_
        exact V_iret X hr rfl ⟨by omega, by omega⟩ (by exact Or.inl ⟨hL, by omega, rfl, by rw [hv, hw]⟩) dX7_strike_86 (by decide) (by decide)
      · skip
        rintro i u1 _ hiN ⟨-, rfl, hv⟩ kk
        have hRu : RG u1 := hv ▸ mvM_RG hRw (hR _ _)
        have hsb := sumF_b2 (f := fun l => if σ.1 106 l = a then (1 : Int) else 0) (c := 1) (m := n) (fun l _ => by split <;> omega) i (by omega)
        refine V_iload_n X 3 rfl dX7_strike_46 rfl ?_
        refine V_aload_n X 0 rfl dX7_strike_47 rfl ?_
        refine V_get X (ci := 7) (89) (by decide) (rfl) (by decide) rfl (fun _ h => List.mem_cons_of_mem _ (List.mem_append_right _ h)) 11 (by decide) (List.mem_of_getElem? (i := 2) rfl) rfl rfl dX7_strike_48 ?_
        refine V_top (b := ((n : Nat) : Int)) (by rw [hv, mvM_n (by decide)]; exact hw11) ?_
        refine V_icmp_ge X 85 ⟨by omega, by omega⟩ ⟨by omega, by omega⟩ dX7_strike_51 (by decide) (fun h => absurd h (by omega)) (fun _ => ?_)
        refine V_aload_n X 0 rfl dX7_strike_54 rfl ?_
        refine V_get X (ci := 7) (89) (by decide) (rfl) (by decide) rfl (fun _ h => List.mem_cons_of_mem _ (List.mem_append_right _ h)) 21 (by decide) (List.mem_of_getElem? (i := 3) rfl) rfl rfl dX7_strike_55 ?_
        refine V_iload_n X 3 rfl dX7_strike_58 rfl ?_
        refine V_iald X (N := 30) (106) (by decide) (rfl) (rfl) (by decide) (i) (rfl) (by omega) dX7_strike_59 ?_
        refine V_top (b := σ.1 106 i) (by rw [hv, mvM_6, if_neg (by omega), hw6]) ?_
        refine V_iload_n X 1 rfl dX7_strike_60 rfl ?_
        refine V_icmp_ne X 79 (hR _ _) ha dX7_strike_61 (by decide) (fun q10 => ?_) (fun q10 => ?_)
        · skip
          refine V_iinc X [(3, .int (iN (((i : Nat) : Int) + 1))), (0, .ref (ga g (89))), (1, .int (iN (a))), (2, .int (iN (sumF (fun l => if σ.1 106 l = a then 1 else 0) i)))] 3 (((i : Nat) : Int) + 1) (rfl) rfl dX7_strike_79 (by decide) rfl ?_
          refine V_goto X 46 dX7_strike_82 (by decide) ?_
          refine V_sub (lv' := [(0, .ref (ga g (89))), (1, .int (iN (a))), (2, .int (iN (sumF (fun l => if σ.1 106 l = a then 1 else 0) i))), (3, .int (iN (((i : Nat) : Int) + 1)))]) [1, 2, 3, 0] rfl ?_
          refine V_lv (congrArg (fun q : Int => ([(0, .ref (ga g (89))), (1, .int (iN (a))), (2, .int (iN q)), (3, .int (iN (((i : Nat) : Int) + 1)))] : List (Nat × Value))) (show sumF (fun l => if σ.1 106 l = a then 1 else 0) i = sumF (fun l => if σ.1 106 l = a then 1 else 0) (i + 1) from by show _ = sumF _ i + (if _ then 1 else 0); rw [if_neg (by omega)]; omega)) ?_
          refine V_lv (congrArg (fun q : Int => ([(0, .ref (ga g (89))), (1, .int (iN (a))), (2, .int (iN (sumF (fun l => if σ.1 106 l = a then 1 else 0) (i + 1)))), (3, .int (iN q))] : List (Nat × Value))) (show ((i : Nat) : Int) + 1 = (((i + 1) : Nat) : Int) from by omega)) ?_
          exact kk _ _ ⟨trivial, rfl, by rw [hv]; exact mvM_k (by rw [hw6]; omega)⟩
        · skip
          refine V_aload_n X 0 rfl dX7_strike_64 rfl ?_
          refine V_get X (ci := 7) (89) (by decide) (rfl) (by decide) rfl (fun _ h => List.mem_cons_of_mem _ (List.mem_append_right _ h)) 21 (by decide) (List.mem_of_getElem? (i := 3) rfl) rfl rfl dX7_strike_65 ?_
          refine V_iload_n X 3 rfl dX7_strike_68 rfl ?_
          refine V_aload_n X 0 rfl dX7_strike_69 rfl ?_
          refine V_get X (ci := 7) (89) (by decide) (rfl) (by decide) rfl (fun _ h => List.mem_cons_of_mem _ (List.mem_append_right _ h)) 21 (by decide) (List.mem_of_getElem? (i := 3) rfl) rfl rfl dX7_strike_70 ?_
          refine V_iload_n X 1 rfl dX7_strike_73 rfl ?_
          refine V_iald X (N := 30) (106) (by decide) (rfl) (rfl) (by decide) (a.toNat) (by omega) (by omega) dX7_strike_74 ?_
          refine V_top (b := σ.1 106 a.toNat) (by rw [hv, mvM_6, hw6, if_neg (by omega)]) ?_
          refine V_iast X (N := 30) (106) (by decide) (rfl) (rfl) (by decide) (i) (rfl) (by omega) dX7_strike_75 ?_
          refine V_iinc X [(2, .int (iN (sumF (fun l => if σ.1 106 l = a then 1 else 0) i + 1))), (0, .ref (ga g (89))), (1, .int (iN (a))), (3, .int (iN (((i : Nat) : Int))))] 2 (sumF (fun l => if σ.1 106 l = a then 1 else 0) i + 1) (rfl) rfl dX7_strike_76 (by decide) rfl ?_
          refine V_iinc X [(3, .int (iN (((i : Nat) : Int) + 1))), (2, .int (iN (sumF (fun l => if σ.1 106 l = a then 1 else 0) i + 1))), (0, .ref (ga g (89))), (1, .int (iN (a)))] 3 (((i : Nat) : Int) + 1) (rfl) rfl dX7_strike_79 (by decide) rfl ?_
          refine V_goto X 46 dX7_strike_82 (by decide) ?_
          refine V_sub (lv' := [(0, .ref (ga g (89))), (1, .int (iN (a))), (2, .int (iN (sumF (fun l => if σ.1 106 l = a then 1 else 0) i + 1))), (3, .int (iN (((i : Nat) : Int) + 1)))]) [2, 3, 1, 0] rfl ?_
          refine V_lv (congrArg (fun q : Int => ([(0, .ref (ga g (89))), (1, .int (iN (a))), (2, .int (iN q)), (3, .int (iN (((i : Nat) : Int) + 1)))] : List (Nat × Value))) (show sumF (fun l => if σ.1 106 l = a then 1 else 0) i + 1 = sumF (fun l => if σ.1 106 l = a then 1 else 0) (i + 1) from by show _ = sumF _ i + (if _ then 1 else 0); rw [if_pos (by omega)])) ?_
          refine V_lv (congrArg (fun q : Int => ([(0, .ref (ga g (89))), (1, .int (iN (a))), (2, .int (iN (sumF (fun l => if σ.1 106 l = a then 1 else 0) (i + 1)))), (3, .int (iN q))] : List (Nat × Value))) (show ((i : Nat) : Int) + 1 = (((i + 1) : Nat) : Int) from by omega)) ?_
          exact kk _ _ ⟨trivial, rfl, by rw [hv]; exact mvM_s (by rw [hw6]; omega)⟩
    · skip
      refine V_iconst X dX7_strike_22 ?_
      refine V_goto X 27 dX7_strike_23 (by decide) ?_
      refine V_callV_I X (na := 1) (ci := 7) (b0 := 89) (by decide) (rfl) (by decide) rfl (m_X7_fails g l hl9 σ hR 2 ⟨by decide, by decide⟩) gX7_strike_X7_fails rfl rfl rfl (by decide +kernel) ⟨Nat.le_of_ble_eq_true rfl, Nat.le_of_ble_eq_true rfl⟩ rfl rfl (Nat.le_of_ble_eq_true rfl) ⟨Nat.le_of_ble_eq_true rfl, Nat.le_of_ble_eq_true rfl⟩ dX7_strike_27 (fun z11 u12 z11r hp13 => ?_)
      obtain ⟨hz9, hu14⟩ := hp13
      have hu14 := hu14.symm
      subst hu14
      rw [if_pos (by decide)] at hz9
      subst hz9
      refine V_if_eq X 35 ⟨by decide, by decide⟩ dX7_strike_30 (by decide) (fun h => absurd h (by first | decide | omega)) (fun _ => ?_)
      refine V_iconst X dX7_strike_33 ?_
      exact V_iret X hr rfl ⟨by decide, by decide⟩ (by exact Or.inr (Or.inr ⟨hL, by omega, rfl⟩)) dX7_strike_34 (by decide) (by decide)
  · skip
    rw [if_neg hL] at hz9
    subst hz9
    refine V_if_eq X 13 ⟨by decide, by decide⟩ dX7_strike_6 (by decide) (fun h => absurd h (by first | decide | omega)) (fun _ => ?_)
    refine V_iconst X dX7_strike_9 ?_
    refine V_goto X 27 dX7_strike_10 (by decide) ?_
    refine V_callV_I X (na := 1) (ci := 7) (b0 := 89) (by decide) (rfl) (by decide) rfl (m_X7_fails g l hl9 σ hR 1 ⟨by decide, by decide⟩) gX7_strike_X7_fails rfl rfl rfl (by decide +kernel) ⟨Nat.le_of_ble_eq_true rfl, Nat.le_of_ble_eq_true rfl⟩ rfl rfl (Nat.le_of_ble_eq_true rfl) ⟨Nat.le_of_ble_eq_true rfl, Nat.le_of_ble_eq_true rfl⟩ dX7_strike_27 (fun z15 u16 z15r hp17 => ?_)
    obtain ⟨hz9, hu18⟩ := hp17
    have hu18 := hu18.symm
    subst hu18
    rw [if_pos (by decide)] at hz9
    subst hz9
    refine V_if_eq X 35 ⟨by decide, by decide⟩ dX7_strike_30 (by decide) (fun h => absurd h (by first | decide | omega)) (fun _ => ?_)
    refine V_iconst X dX7_strike_33 ?_
    exact V_iret X hr rfl ⟨by decide, by decide⟩ (by exact Or.inr (Or.inl ⟨hL, rfl⟩)) dX7_strike_34 (by decide) (by decide)
set_option maxRecDepth 100000 in
set_option maxHeartbeats 4000000 in
theorem m_X7_giveBack (g : Geo) (l : Launch) (hl9 : l.stackTraces = false) (σ : St) (hR : RG σ) (n : Nat) (hMB : MB σ n) (a : Int) (ha : R32 a) : Met l yX7_giveBack wsX7_giveBack ({ frames := 2, cells := 0, slots := 0, locals := 43 }) (va_Pc [.ref (ga g (89)), .int (iN (a))] (World g σ)) (QI g (fun z u => ((0 ≤ a ∧ a < σ.1 89 11) ∧ ¬ σ.1 107 a.toNat = 0 ∧ z = sumF (fun l => if (gbM σ a.toNat).1 107 l = 0 then 1 else 0) n ∧ u = gbM σ a.toNat) ∨ (¬ (0 ≤ a ∧ a < σ.1 89 11) ∧ u = sw σ 89 0 1) ∨ ((0 ≤ a ∧ a < σ.1 89 11) ∧ σ.1 107 a.toNat = 0 ∧ u = sw σ 89 0 2))) 0 0 (gA g) := by
  refine V_met hl9 (by decide) rfl (Nat.le_of_ble_eq_true rfl) ?_
  intro p9 e9 s9 m9 b9 t9 c9 X hr _
  have hn := hMB.1
  have hn30 := hMB.2.1
  have hL4 : 0 ≤ σ.1 89 11 ∧ σ.1 89 11 ≤ 30 := by omega
  refine V_lv (lv' := [(0, .ref (ga g (89))), (1, .int (iN (a)))]) rfl ?_
  refine V_aload_n X 0 rfl dX7_giveBack_0 rfl ?_
  refine V_aload_n X 0 rfl dX7_giveBack_1 rfl ?_
  refine V_iload_n X 1 rfl dX7_giveBack_2 rfl ?_
  refine V_callV_I X (na := 1) (ci := 7) (b0 := 89) (by decide) (rfl) (by decide) rfl (m_X7_isNoLap g l hl9 σ hR a ha hL4) gX7_giveBack_X7_isNoLap rfl rfl rfl (by decide +kernel) ⟨Nat.le_of_ble_eq_true rfl, Nat.le_of_ble_eq_true rfl⟩ rfl rfl (Nat.le_of_ble_eq_true rfl) ⟨Nat.le_of_ble_eq_true rfl, Nat.le_of_ble_eq_true rfl⟩ dX7_giveBack_3 (fun z1 u2 z1r hp3 => ?_)
  obtain ⟨hz9, hu4⟩ := hp3
  have hu4 := hu4.symm
  subst hu4
  rcases Classical.em (0 ≤ a ∧ a < σ.1 89 11) with hL | hL
  · skip
    rw [if_pos hL] at hz9
    subst hz9
    refine V_if_eq X 13 ⟨by decide, by decide⟩ dX7_giveBack_6 (by decide) (fun _ => ?_) (fun h => absurd h (by first | decide | omega))
    refine V_aload_n X 0 rfl dX7_giveBack_13 rfl ?_
    refine V_get X (ci := 7) (89) (by decide) (rfl) (by decide) rfl (fun _ h => List.mem_cons_of_mem _ (List.mem_append_right _ h)) 22 (by decide) (List.mem_of_getElem? (i := 1) rfl) rfl rfl dX7_giveBack_14 ?_
    refine V_iload_n X 1 rfl dX7_giveBack_17 rfl ?_
    refine V_zald X (N := 30) (107) (by decide) (rfl) (rfl) (by decide) (a.toNat) (by omega) (by omega) dX7_giveBack_18 ?_
    refine V_if_ne X 26 (hR _ _) dX7_giveBack_19 (by decide) (fun q5 => ?_) (fun q5 => ?_)
    · skip
      refine V_iconst X dX7_giveBack_26 ?_
      refine V_callV_I X (na := 1) (ci := 7) (b0 := 89) (by decide) (rfl) (by decide) rfl (m_X7_fails g l hl9 σ hR 0 ⟨by decide, by decide⟩) gX7_giveBack_X7_fails rfl rfl rfl (by decide +kernel) ⟨Nat.le_of_ble_eq_true rfl, Nat.le_of_ble_eq_true rfl⟩ rfl rfl (Nat.le_of_ble_eq_true rfl) ⟨Nat.le_of_ble_eq_true rfl, Nat.le_of_ble_eq_true rfl⟩ dX7_giveBack_27 (fun z6 u7 z6r hp8 => ?_)
      obtain ⟨hz9, hu9⟩ := hp8
      have hu9 := hu9.symm
      subst hu9
      rw [if_neg (by decide)] at hz9
      subst hz9
      refine V_if_eq X 35 ⟨by decide, by decide⟩ dX7_giveBack_30 (by decide) (fun _ => ?_) (fun h => absurd h (by first | decide | omega))
      refine V_aload_n X 0 rfl dX7_giveBack_35 rfl ?_
      refine V_get X (ci := 7) (89) (by decide) (rfl) (by decide) rfl (fun _ h => List.mem_cons_of_mem _ (List.mem_append_right _ h)) 22 (by decide) (List.mem_of_getElem? (i := 1) rfl) rfl rfl dX7_giveBack_36 ?_
      refine V_iload_n X 1 rfl dX7_giveBack_39 rfl ?_
      refine V_iconst X dX7_giveBack_40 ?_
      refine V_zast X (N := 30) (107) (by decide) (rfl) (rfl) (by decide) (a.toNat) (by omega) (by omega) (Or.inl rfl) dX7_giveBack_41 ?_
      obtain ⟨w, hw⟩ : ∃ w, w = gbM σ a.toNat := ⟨_, rfl⟩
      refine V_st (σ' := w) hw.symm ?_
      have hRw : RG w := by rw [hw]; exact (hR.sw _ _ ⟨by decide, by decide⟩).sw _ _ ⟨by decide, by decide⟩
      have hw11 : w.1 89 11 = (n : Int) := by rw [hw]; exact hn
      refine V_iconst X dX7_giveBack_42 ?_
      refine V_istore_n X [(2, .int (iN (0))), (0, .ref (ga g (89))), (1, .int (iN (a)))] dX7_giveBack_43 rfl (by decide) rfl ?_
      refine V_iconst X dX7_giveBack_44 ?_
      refine V_istore_n X [(3, .int (iN (0))), (2, .int (iN (0))), (0, .ref (ga g (89))), (1, .int (iN (a)))] dX7_giveBack_45 rfl (by decide) rfl ?_
      refine V_sub (lv' := [(0, .ref (ga g (89))), (1, .int (iN (a))), (2, .int (iN (0))), (3, .int (iN (0)))]) [2, 3, 1, 0] rfl ?_
      refine V_up (N := n) (fun (i : Nat) (u : St) (lw : List (Nat × Value)) => w = u ∧ [(0, .ref (ga g (89))), (1, .int (iN (a))), (2, .int (iN (sumF (fun l => if w.1 107 l = 0 then 1 else 0) i))), (3, .int (iN (((i : Nat) : Int))))] = lw ∧ (True)) (i0 := 0) (Nat.zero_le _) ⟨rfl, rfl, trivial⟩ ?_ ?_
      · skip
        rintro _ _ ⟨rfl, rfl, -⟩
        have hsb := sumF_b2 (f := fun l => if w.1 107 l = 0 then (1 : Int) else 0) (c := 1) (m := n) (fun l _ => by split <;> omega) n (by omega)
        refine V_iload_n X 3 rfl dX7_giveBack_46 rfl ?_
        refine V_aload_n X 0 rfl dX7_giveBack_47 rfl ?_
        refine V_get X (ci := 7) (89) (by decide) (rfl) (by decide) rfl (fun _ h => List.mem_cons_of_mem _ (List.mem_append_right _ h)) 11 (by decide) (List.mem_of_getElem? (i := 2) rfl) rfl rfl dX7_giveBack_48 ?_
        refine V_icmp_ge X 77 ⟨by omega, by omega⟩ (hRw _ _) dX7_giveBack_51 (by decide) (fun _ => ?_) (fun h => absurd h (by omega))
        refine V_iload_n X 2 rfl dX7_giveBack_77 rfl ?_
        exact V_iret X hr rfl ⟨by omega, by omega⟩ (by exact Or.inl ⟨hL, by omega, by rw [hw], hw⟩) dX7_giveBack_78 (by decide) (by decide)
      · skip
        rintro i _ _ hiN ⟨rfl, rfl, -⟩ kk
        have hsb := sumF_b2 (f := fun l => if w.1 107 l = 0 then (1 : Int) else 0) (c := 1) (m := n) (fun l _ => by split <;> omega) i (by omega)
        refine V_iload_n X 3 rfl dX7_giveBack_46 rfl ?_
        refine V_aload_n X 0 rfl dX7_giveBack_47 rfl ?_
        refine V_get X (ci := 7) (89) (by decide) (rfl) (by decide) rfl (fun _ h => List.mem_cons_of_mem _ (List.mem_append_right _ h)) 11 (by decide) (List.mem_of_getElem? (i := 2) rfl) rfl rfl dX7_giveBack_48 ?_
        refine V_icmp_ge X 77 ⟨by omega, by omega⟩ (hRw _ _) dX7_giveBack_51 (by decide) (fun h => absurd h (by omega)) (fun _ => ?_)
        refine V_iload_n X 2 rfl dX7_giveBack_54 rfl ?_
        refine V_aload_n X 0 rfl dX7_giveBack_55 rfl ?_
        refine V_get X (ci := 7) (89) (by decide) (rfl) (by decide) rfl (fun _ h => List.mem_cons_of_mem _ (List.mem_append_right _ h)) 22 (by decide) (List.mem_of_getElem? (i := 1) rfl) rfl rfl dX7_giveBack_56 ?_
        refine V_iload_n X 3 rfl dX7_giveBack_59 rfl ?_
        refine V_zald X (N := 30) (107) (by decide) (rfl) (rfl) (by decide) (i) (rfl) (by omega) dX7_giveBack_60 ?_
        refine V_if_eq X 68 (hRw _ _) dX7_giveBack_61 (by decide) (fun q10 => ?_) (fun q10 => ?_)
        · skip
          refine V_iconst X dX7_giveBack_68 ?_
          refine V_iadd X dX7_giveBack_69 ?_
          refine V_istore_n X [(2, .int (iN ((sumF (fun l => if w.1 107 l = 0 then 1 else 0) i) + 1))), (0, .ref (ga g (89))), (1, .int (iN (a))), (3, .int (iN (((i : Nat) : Int))))] dX7_giveBack_70 rfl (by decide) rfl ?_
          refine V_iinc X [(3, .int (iN (((i : Nat) : Int) + 1))), (2, .int (iN ((sumF (fun l => if w.1 107 l = 0 then 1 else 0) i) + 1))), (0, .ref (ga g (89))), (1, .int (iN (a)))] 3 (((i : Nat) : Int) + 1) (rfl) rfl dX7_giveBack_71 (by decide) rfl ?_
          refine V_goto X 46 dX7_giveBack_74 (by decide) ?_
          refine V_sub (lv' := [(0, .ref (ga g (89))), (1, .int (iN (a))), (2, .int (iN ((sumF (fun l => if w.1 107 l = 0 then 1 else 0) i) + 1))), (3, .int (iN (((i : Nat) : Int) + 1)))]) [2, 3, 1, 0] rfl ?_
          refine V_lv (congrArg (fun q : Int => ([(0, .ref (ga g (89))), (1, .int (iN (a))), (2, .int (iN q)), (3, .int (iN (((i : Nat) : Int) + 1)))] : List (Nat × Value))) (show (sumF (fun l => if w.1 107 l = 0 then 1 else 0) i) + 1 = sumF (fun l => if w.1 107 l = 0 then 1 else 0) (i + 1) from by show _ = sumF _ i + (if _ then 1 else 0); rw [if_pos (by omega)])) ?_
          refine V_lv (congrArg (fun q : Int => ([(0, .ref (ga g (89))), (1, .int (iN (a))), (2, .int (iN (sumF (fun l => if w.1 107 l = 0 then 1 else 0) (i + 1)))), (3, .int (iN q))] : List (Nat × Value))) (show ((i : Nat) : Int) + 1 = (((i + 1) : Nat) : Int) from by omega)) ?_
          exact kk _ _ ⟨rfl, rfl, trivial⟩
        · skip
          refine V_iconst X dX7_giveBack_64 ?_
          refine V_goto X 69 dX7_giveBack_65 (by decide) ?_
          refine V_iadd X dX7_giveBack_69 ?_
          refine V_istore_n X [(2, .int (iN ((sumF (fun l => if w.1 107 l = 0 then 1 else 0) i) + 0))), (0, .ref (ga g (89))), (1, .int (iN (a))), (3, .int (iN (((i : Nat) : Int))))] dX7_giveBack_70 rfl (by decide) rfl ?_
          refine V_iinc X [(3, .int (iN (((i : Nat) : Int) + 1))), (2, .int (iN ((sumF (fun l => if w.1 107 l = 0 then 1 else 0) i) + 0))), (0, .ref (ga g (89))), (1, .int (iN (a)))] 3 (((i : Nat) : Int) + 1) (rfl) rfl dX7_giveBack_71 (by decide) rfl ?_
          refine V_goto X 46 dX7_giveBack_74 (by decide) ?_
          refine V_sub (lv' := [(0, .ref (ga g (89))), (1, .int (iN (a))), (2, .int (iN ((sumF (fun l => if w.1 107 l = 0 then 1 else 0) i) + 0))), (3, .int (iN (((i : Nat) : Int) + 1)))]) [2, 3, 1, 0] rfl ?_
          refine V_lv (congrArg (fun q : Int => ([(0, .ref (ga g (89))), (1, .int (iN (a))), (2, .int (iN q)), (3, .int (iN (((i : Nat) : Int) + 1)))] : List (Nat × Value))) (show (sumF (fun l => if w.1 107 l = 0 then 1 else 0) i) + 0 = sumF (fun l => if w.1 107 l = 0 then 1 else 0) (i + 1) from by show _ = sumF _ i + (if _ then 1 else 0); rw [if_neg (by omega)])) ?_
          refine V_lv (congrArg (fun q : Int => ([(0, .ref (ga g (89))), (1, .int (iN (a))), (2, .int (iN (sumF (fun l => if w.1 107 l = 0 then 1 else 0) (i + 1)))), (3, .int (iN q))] : List (Nat × Value))) (show ((i : Nat) : Int) + 1 = (((i + 1) : Nat) : Int) from by omega)) ?_
          exact kk _ _ ⟨rfl, rfl, trivial⟩
    · skip
      refine V_iconst X dX7_giveBack_22 ?_
      refine V_goto X 27 dX7_giveBack_23 (by decide) ?_
      refine V_callV_I X (na := 1) (ci := 7) (b0 := 89) (by decide) (rfl) (by decide) rfl (m_X7_fails g l hl9 σ hR 2 ⟨by decide, by decide⟩) gX7_giveBack_X7_fails rfl rfl rfl (by decide +kernel) ⟨Nat.le_of_ble_eq_true rfl, Nat.le_of_ble_eq_true rfl⟩ rfl rfl (Nat.le_of_ble_eq_true rfl) ⟨Nat.le_of_ble_eq_true rfl, Nat.le_of_ble_eq_true rfl⟩ dX7_giveBack_27 (fun z11 u12 z11r hp13 => ?_)
      obtain ⟨hz9, hu14⟩ := hp13
      have hu14 := hu14.symm
      subst hu14
      rw [if_pos (by decide)] at hz9
      subst hz9
      refine V_if_eq X 35 ⟨by decide, by decide⟩ dX7_giveBack_30 (by decide) (fun h => absurd h (by first | decide | omega)) (fun _ => ?_)
      refine V_iconst X dX7_giveBack_33 ?_
      exact V_iret X hr rfl ⟨by decide, by decide⟩ (by exact Or.inr (Or.inr ⟨hL, by omega, rfl⟩)) dX7_giveBack_34 (by decide) (by decide)
  · skip
    rw [if_neg hL] at hz9
    subst hz9
    refine V_if_eq X 13 ⟨by decide, by decide⟩ dX7_giveBack_6 (by decide) (fun h => absurd h (by first | decide | omega)) (fun _ => ?_)
    refine V_iconst X dX7_giveBack_9 ?_
    refine V_goto X 27 dX7_giveBack_10 (by decide) ?_
    refine V_callV_I X (na := 1) (ci := 7) (b0 := 89) (by decide) (rfl) (by decide) rfl (m_X7_fails g l hl9 σ hR 1 ⟨by decide, by decide⟩) gX7_giveBack_X7_fails rfl rfl rfl (by decide +kernel) ⟨Nat.le_of_ble_eq_true rfl, Nat.le_of_ble_eq_true rfl⟩ rfl rfl (Nat.le_of_ble_eq_true rfl) ⟨Nat.le_of_ble_eq_true rfl, Nat.le_of_ble_eq_true rfl⟩ dX7_giveBack_27 (fun z15 u16 z15r hp17 => ?_)
    obtain ⟨hz9, hu18⟩ := hp17
    have hu18 := hu18.symm
    subst hu18
    rw [if_pos (by decide)] at hz9
    subst hz9
    refine V_if_eq X 35 ⟨by decide, by decide⟩ dX7_giveBack_30 (by decide) (fun h => absurd h (by first | decide | omega)) (fun _ => ?_)
    refine V_iconst X dX7_giveBack_33 ?_
    exact V_iret X hr rfl ⟨by decide, by decide⟩ (by exact Or.inr (Or.inl ⟨hL, rfl⟩)) dX7_giveBack_34 (by decide) (by decide)
set_option maxRecDepth 100000 in
set_option maxHeartbeats 4000000 in
theorem m_X7_stands (g : Geo) (l : Launch) (hl9 : l.stackTraces = false) (σ : St) (hR : RG σ) (n : Nat) (hMB : MB σ n) (a : Int) (ha : R32 a) : Met l yX7_stands wsX7_stands ({ frames := 2, cells := 0, slots := 0, locals := 43 }) (va_Pc [.ref (ga g (89)), .int (iN (a))] (World g σ)) (QI g (fun z u => ((0 ≤ a ∧ a < σ.1 89 11) ∧ z = (if σ.1 107 a.toNat = 0 then 1 else 0) ∧ u = sw σ 89 0 0) ∨ (¬ (0 ≤ a ∧ a < σ.1 89 11) ∧ u = sw σ 89 0 1))) 0 0 (gA g) := by
  refine V_met hl9 (by decide) rfl (Nat.le_of_ble_eq_true rfl) ?_
  intro p9 e9 s9 m9 b9 t9 c9 X hr _
  have hn := hMB.1
  have hn30 := hMB.2.1
  have hL4 : 0 ≤ σ.1 89 11 ∧ σ.1 89 11 ≤ 30 := by omega
  refine V_lv (lv' := [(0, .ref (ga g (89))), (1, .int (iN (a)))]) rfl ?_
  refine V_aload_n X 0 rfl dX7_stands_0 rfl ?_
  refine V_aload_n X 0 rfl dX7_stands_1 rfl ?_
  refine V_iload_n X 1 rfl dX7_stands_2 rfl ?_
  refine V_callV_I X (na := 1) (ci := 7) (b0 := 89) (by decide) (rfl) (by decide) rfl (m_X7_isNoLap g l hl9 σ hR a ha hL4) gX7_stands_X7_isNoLap rfl rfl rfl (by decide +kernel) ⟨Nat.le_of_ble_eq_true rfl, Nat.le_of_ble_eq_true rfl⟩ rfl rfl (Nat.le_of_ble_eq_true rfl) ⟨Nat.le_of_ble_eq_true rfl, Nat.le_of_ble_eq_true rfl⟩ dX7_stands_3 (fun z1 u2 z1r hp3 => ?_)
  obtain ⟨hz9, hu4⟩ := hp3
  have hu4 := hu4.symm
  subst hu4
  rcases Classical.em (0 ≤ a ∧ a < σ.1 89 11) with hL | hL
  · skip
    rw [if_pos hL] at hz9
    subst hz9
    refine V_if_eq X 13 ⟨by decide, by decide⟩ dX7_stands_6 (by decide) (fun _ => ?_) (fun h => absurd h (by first | decide | omega))
    refine V_iconst X dX7_stands_13 ?_
    refine V_callV_I X (na := 1) (ci := 7) (b0 := 89) (by decide) (rfl) (by decide) rfl (m_X7_fails g l hl9 σ hR 0 ⟨by decide, by decide⟩) gX7_stands_X7_fails rfl rfl rfl (by decide +kernel) ⟨Nat.le_of_ble_eq_true rfl, Nat.le_of_ble_eq_true rfl⟩ rfl rfl (Nat.le_of_ble_eq_true rfl) ⟨Nat.le_of_ble_eq_true rfl, Nat.le_of_ble_eq_true rfl⟩ dX7_stands_14 (fun z5 u6 z5r hp7 => ?_)
    obtain ⟨hz9, hu8⟩ := hp7
    have hu8 := hu8.symm
    subst hu8
    rw [if_neg (by decide)] at hz9
    subst hz9
    refine V_if_ne X 33 ⟨by decide, by decide⟩ dX7_stands_17 (by decide) (fun h => absurd h (by first | decide | omega)) (fun _ => ?_)
    refine V_aload_n X 0 rfl dX7_stands_20 rfl ?_
    refine V_get X (ci := 7) (89) (by decide) (rfl) (by decide) rfl (fun _ h => List.mem_cons_of_mem _ (List.mem_append_right _ h)) 22 (by decide) (List.mem_of_getElem? (i := 1) rfl) rfl rfl dX7_stands_21 ?_
    refine V_iload_n X 1 rfl dX7_stands_24 rfl ?_
    refine V_zald X (N := 30) (107) (by decide) (rfl) (rfl) (by decide) (a.toNat) (by omega) (by omega) dX7_stands_25 ?_
    refine V_top (b := σ.1 (107) (a.toNat)) (rd_n (by decide)) ?_
    refine V_if_ne X 33 (hR _ _) dX7_stands_26 (by decide) (fun q9 => ?_) (fun q9 => ?_)
    · skip
      refine V_iconst X dX7_stands_33 ?_
      exact V_iret X hr (iN_bool (Or.inl rfl)).1 ⟨by decide, by decide⟩ (by exact Or.inl ⟨hL, by rw [if_neg (by omega)], rfl⟩) dX7_stands_34 (by decide) (by decide)
    · skip
      refine V_iconst X dX7_stands_29 ?_
      refine V_goto X 34 dX7_stands_30 (by decide) ?_
      exact V_iret X hr (iN_bool (Or.inr rfl)).1 ⟨by decide, by decide⟩ (by exact Or.inl ⟨hL, by rw [if_pos (by omega)], rfl⟩) dX7_stands_34 (by decide) (by decide)
  · skip
    rw [if_neg hL] at hz9
    subst hz9
    refine V_if_eq X 13 ⟨by decide, by decide⟩ dX7_stands_6 (by decide) (fun h => absurd h (by first | decide | omega)) (fun _ => ?_)
    refine V_iconst X dX7_stands_9 ?_
    refine V_goto X 14 dX7_stands_10 (by decide) ?_
    refine V_callV_I X (na := 1) (ci := 7) (b0 := 89) (by decide) (rfl) (by decide) rfl (m_X7_fails g l hl9 σ hR 1 ⟨by decide, by decide⟩) gX7_stands_X7_fails rfl rfl rfl (by decide +kernel) ⟨Nat.le_of_ble_eq_true rfl, Nat.le_of_ble_eq_true rfl⟩ rfl rfl (Nat.le_of_ble_eq_true rfl) ⟨Nat.le_of_ble_eq_true rfl, Nat.le_of_ble_eq_true rfl⟩ dX7_stands_14 (fun z10 u11 z10r hp12 => ?_)
    obtain ⟨hz9, hu13⟩ := hp12
    have hu13 := hu13.symm
    subst hu13
    rw [if_pos (by decide)] at hz9
    subst hz9
    refine V_if_ne X 33 ⟨by decide, by decide⟩ dX7_stands_17 (by decide) (fun _ => ?_) (fun h => absurd h (by first | decide | omega))
    refine V_iconst X dX7_stands_33 ?_
    exact V_iret X hr (iN_bool (Or.inl rfl)).1 ⟨by decide, by decide⟩ (by exact Or.inr ⟨hL, rfl⟩) dX7_stands_34 (by decide) (by decide)
set_option maxRecDepth 100000 in
set_option maxHeartbeats 4000000 in
theorem m_X7_penalty (g : Geo) (l : Launch) (hl9 : l.stackTraces = false) (σ : St) (hR : RG σ) (n : Nat) (hMB : MB σ n) (a h : Int) (ha : R32 a) (hh : R32 h) : Met l yX7_penalty wsX7_penalty ({ frames := 2, cells := 0, slots := 0, locals := 43 }) (va_Pc [.ref (ga g (89)), .int (iN (a)), .int (iN (h))] (World g σ)) (QI g (fun z u => ((0 ≤ a ∧ a < σ.1 89 11) ∧ (0 ≤ h ∧ h ≤ 9999) ∧ z = σ.1 100 a.toNat ∧ u = sw (sw σ 89 0 0) 100 a.toNat h) ∨ (¬ (0 ≤ a ∧ a < σ.1 89 11) ∧ u = sw σ 89 0 1) ∨ ((0 ≤ a ∧ a < σ.1 89 11) ∧ ¬ (0 ≤ h ∧ h ≤ 9999) ∧ u = sw σ 89 0 2))) 0 0 (gA g) := by
  refine V_met hl9 (by decide) rfl (Nat.le_of_ble_eq_true rfl) ?_
  intro p9 e9 s9 m9 b9 t9 c9 X hr _
  have hn := hMB.1
  have hn30 := hMB.2.1
  have hL4 : 0 ≤ σ.1 89 11 ∧ σ.1 89 11 ≤ 30 := by omega
  refine V_lv (lv' := [(0, .ref (ga g (89))), (1, .int (iN (a))), (2, .int (iN (h)))]) rfl ?_
  refine V_aload_n X 0 rfl dX7_penalty_0 rfl ?_
  refine V_aload_n X 0 rfl dX7_penalty_1 rfl ?_
  refine V_iload_n X 1 rfl dX7_penalty_2 rfl ?_
  refine V_callV_I X (na := 1) (ci := 7) (b0 := 89) (by decide) (rfl) (by decide) rfl (m_X7_isNoLap g l hl9 σ hR a ha hL4) gX7_penalty_X7_isNoLap rfl rfl rfl (by decide +kernel) ⟨Nat.le_of_ble_eq_true rfl, Nat.le_of_ble_eq_true rfl⟩ rfl rfl (Nat.le_of_ble_eq_true rfl) ⟨Nat.le_of_ble_eq_true rfl, Nat.le_of_ble_eq_true rfl⟩ dX7_penalty_3 (fun z1 u2 z1r hp3 => ?_)
  obtain ⟨hz9, hu4⟩ := hp3
  have hu4 := hu4.symm
  subst hu4
  rcases Classical.em (0 ≤ a ∧ a < σ.1 89 11) with hL | hL
  · skip
    rw [if_pos hL] at hz9
    subst hz9
    refine V_if_eq X 13 ⟨by decide, by decide⟩ dX7_penalty_6 (by decide) (fun _ => ?_) (fun h => absurd h (by first | decide | omega))
    refine V_iload_n X 2 rfl dX7_penalty_13 rfl ?_
    refine V_iconst X dX7_penalty_14 ?_
    refine V_sipush X (by decide) dX7_penalty_15 ?_
    refine V_callS_I X (na := 3) (m_X7_in g l hl9 σ h 0 (9999) hh ⟨by decide, by decide⟩ ⟨by decide, by decide⟩) gX7_penalty_X7_in rfl rfl rfl (by decide +kernel) ⟨Nat.le_of_ble_eq_true rfl, Nat.le_of_ble_eq_true rfl⟩ rfl rfl (Nat.le_of_ble_eq_true rfl) ⟨Nat.le_of_ble_eq_true rfl, Nat.le_of_ble_eq_true rfl⟩ dX7_penalty_18 (fun z5 u6 z5r hp7 => ?_)
    obtain ⟨hz9, hu8⟩ := hp7
    have hu8 := hu8.symm
    subst hu8
    rcases Classical.em (0 ≤ h ∧ h ≤ 9999) with hH | hH
    · skip
      rw [if_pos hH] at hz9
      subst hz9
      refine V_if_ne X 28 ⟨by decide, by decide⟩ dX7_penalty_21 (by decide) (fun _ => ?_) (fun h => absurd h (by first | decide | omega))
      refine V_iconst X dX7_penalty_28 ?_
      refine V_callV_I X (na := 1) (ci := 7) (b0 := 89) (by decide) (rfl) (by decide) rfl (m_X7_fails g l hl9 σ hR 0 ⟨by decide, by decide⟩) gX7_penalty_X7_fails rfl rfl rfl (by decide +kernel) ⟨Nat.le_of_ble_eq_true rfl, Nat.le_of_ble_eq_true rfl⟩ rfl rfl (Nat.le_of_ble_eq_true rfl) ⟨Nat.le_of_ble_eq_true rfl, Nat.le_of_ble_eq_true rfl⟩ dX7_penalty_29 (fun z9 u10 z9r hp11 => ?_)
      obtain ⟨hz9, hu12⟩ := hp11
      have hu12 := hu12.symm
      subst hu12
      rw [if_neg (by decide)] at hz9
      subst hz9
      refine V_if_eq X 37 ⟨by decide, by decide⟩ dX7_penalty_32 (by decide) (fun _ => ?_) (fun h => absurd h (by first | decide | omega))
      refine V_aload_n X 0 rfl dX7_penalty_37 rfl ?_
      refine V_get X (ci := 7) (89) (by decide) (rfl) (by decide) rfl (fun _ h => List.mem_cons_of_mem _ (List.mem_append_right _ h)) 15 (by decide) (List.mem_of_getElem? (i := 1) rfl) rfl rfl dX7_penalty_38 ?_
      refine V_iload_n X 1 rfl dX7_penalty_41 rfl ?_
      refine V_iald X (N := 30) (100) (by decide) (rfl) (rfl) (by decide) (a.toNat) (by omega) (by omega) dX7_penalty_42 ?_
      refine V_top (b := σ.1 (100) (a.toNat)) (rd_n (by decide)) ?_
      refine V_istore_n X [(3, .int (iN (σ.1 (100) (a.toNat)))), (0, .ref (ga g (89))), (1, .int (iN (a))), (2, .int (iN (h)))] dX7_penalty_43 rfl (by decide) rfl ?_
      refine V_aload_n X 1 rfl dX7_penalty_44 rfl ?_
      refine V_get X (ci := 7) (89) (by decide) (rfl) (by decide) rfl (fun _ h => List.mem_cons_of_mem _ (List.mem_append_right _ h)) 15 (by decide) (List.mem_of_getElem? (i := 1) rfl) rfl rfl dX7_penalty_45 ?_
      refine V_iload_n X 2 rfl dX7_penalty_48 rfl ?_
      refine V_iload_n X 3 rfl dX7_penalty_49 rfl ?_
      refine V_iast X (N := 30) (100) (by decide) (rfl) (rfl) (by decide) (a.toNat) (by omega) (by omega) dX7_penalty_50 ?_
      refine V_iload_n X 0 rfl dX7_penalty_51 rfl ?_
      exact V_iret X hr rfl (hR _ _) (by exact Or.inl ⟨hL, hH, rfl, rfl⟩) dX7_penalty_52 (by decide) (by decide)
    · skip
      rw [if_neg hH] at hz9
      subst hz9
      refine V_if_ne X 28 ⟨by decide, by decide⟩ dX7_penalty_21 (by decide) (fun h => absurd h (by first | decide | omega)) (fun _ => ?_)
      refine V_iconst X dX7_penalty_24 ?_
      refine V_goto X 29 dX7_penalty_25 (by decide) ?_
      refine V_callV_I X (na := 1) (ci := 7) (b0 := 89) (by decide) (rfl) (by decide) rfl (m_X7_fails g l hl9 σ hR 2 ⟨by decide, by decide⟩) gX7_penalty_X7_fails rfl rfl rfl (by decide +kernel) ⟨Nat.le_of_ble_eq_true rfl, Nat.le_of_ble_eq_true rfl⟩ rfl rfl (Nat.le_of_ble_eq_true rfl) ⟨Nat.le_of_ble_eq_true rfl, Nat.le_of_ble_eq_true rfl⟩ dX7_penalty_29 (fun z13 u14 z13r hp15 => ?_)
      obtain ⟨hz9, hu16⟩ := hp15
      have hu16 := hu16.symm
      subst hu16
      rw [if_pos (by decide)] at hz9
      subst hz9
      refine V_if_eq X 37 ⟨by decide, by decide⟩ dX7_penalty_32 (by decide) (fun h => absurd h (by first | decide | omega)) (fun _ => ?_)
      refine V_iconst X dX7_penalty_35 ?_
      exact V_iret X hr rfl ⟨by decide, by decide⟩ (by exact Or.inr (Or.inr ⟨hL, hH, rfl⟩)) dX7_penalty_36 (by decide) (by decide)
  · skip
    rw [if_neg hL] at hz9
    subst hz9
    refine V_if_eq X 13 ⟨by decide, by decide⟩ dX7_penalty_6 (by decide) (fun h => absurd h (by first | decide | omega)) (fun _ => ?_)
    refine V_iconst X dX7_penalty_9 ?_
    refine V_goto X 29 dX7_penalty_10 (by decide) ?_
    refine V_callV_I X (na := 1) (ci := 7) (b0 := 89) (by decide) (rfl) (by decide) rfl (m_X7_fails g l hl9 σ hR 1 ⟨by decide, by decide⟩) gX7_penalty_X7_fails rfl rfl rfl (by decide +kernel) ⟨Nat.le_of_ble_eq_true rfl, Nat.le_of_ble_eq_true rfl⟩ rfl rfl (Nat.le_of_ble_eq_true rfl) ⟨Nat.le_of_ble_eq_true rfl, Nat.le_of_ble_eq_true rfl⟩ dX7_penalty_29 (fun z17 u18 z17r hp19 => ?_)
    obtain ⟨hz9, hu20⟩ := hp19
    have hu20 := hu20.symm
    subst hu20
    rw [if_pos (by decide)] at hz9
    subst hz9
    refine V_if_eq X 37 ⟨by decide, by decide⟩ dX7_penalty_32 (by decide) (fun h => absurd h (by first | decide | omega)) (fun _ => ?_)
    refine V_iconst X dX7_penalty_35 ?_
    exact V_iret X hr rfl ⟨by decide, by decide⟩ (by exact Or.inr (Or.inl ⟨hL, rfl⟩)) dX7_penalty_36 (by decide) (by decide)
set_option maxRecDepth 100000 in
set_option maxHeartbeats 4000000 in
theorem m_X7_round (g : Geo) (l : Launch) (hl9 : l.stackTraces = false) (σ : St) (hR : RG σ) (hT4 : 0 ≤ σ.1 89 1 ∧ σ.1 89 1 ≤ 4) (a : Int) (ha : R32 a) (r : Nat) (hr1 : σ.1 89 23 = (r : Int)) (hr10 : r ≤ 10) : Met l yX7_round wsX7_round ({ frames := 2, cells := 0, slots := 0, locals := 43 }) (va_Pc [.ref (ga g (89)), .int (iN (a))] (World g σ)) (QI g (fun z u => ((0 ≤ a ∧ a < σ.1 89 1) ∧ r < 10 ∧ z = σ.1 89 23 ∧ u = rndM σ r a) ∨ (¬ (0 ≤ a ∧ a < σ.1 89 1) ∧ u = sw σ 89 0 1) ∨ ((0 ≤ a ∧ a < σ.1 89 1) ∧ ¬ r < 10 ∧ u = sw σ 89 0 2))) 0 0 (gA g) := by
  refine V_met hl9 (by decide) rfl (Nat.le_of_ble_eq_true rfl) ?_
  intro p9 e9 s9 m9 b9 t9 c9 X hr _
  refine V_lv (lv' := [(0, .ref (ga g (89))), (1, .int (iN (a)))]) rfl ?_
  refine V_aload_n X 0 rfl dX7_round_0 rfl ?_
  refine V_aload_n X 0 rfl dX7_round_1 rfl ?_
  refine V_iload_n X 1 rfl dX7_round_2 rfl ?_
  refine V_callV_I X (na := 1) (ci := 7) (b0 := 89) (by decide) (rfl) (by decide) rfl (m_X7_isNoTrack g l hl9 σ hR a ha hT4) gX7_round_X7_isNoTrack rfl rfl rfl (by decide +kernel) ⟨Nat.le_of_ble_eq_true rfl, Nat.le_of_ble_eq_true rfl⟩ rfl rfl (Nat.le_of_ble_eq_true rfl) ⟨Nat.le_of_ble_eq_true rfl, Nat.le_of_ble_eq_true rfl⟩ dX7_round_3 (fun z1 u2 z1r hp3 => ?_)
  obtain ⟨hz9, hu4⟩ := hp3
  have hu4 := hu4.symm
  subst hu4
  rcases Classical.em (0 ≤ a ∧ a < σ.1 89 1) with hT | hT
  · skip
    rw [if_pos hT] at hz9
    subst hz9
    refine V_if_eq X 13 ⟨by decide, by decide⟩ dX7_round_6 (by decide) (fun _ => ?_) (fun h => absurd h (by first | decide | omega))
    refine V_aload_n X 0 rfl dX7_round_13 rfl ?_
    refine V_get X (ci := 7) (89) (by decide) (rfl) (by decide) rfl (fun _ h => List.mem_cons_of_mem _ (List.mem_append_right _ h)) 23 (by decide) (List.mem_of_getElem? (i := 1) rfl) rfl rfl dX7_round_14 ?_
    refine V_bipush X (by decide) dX7_round_17 ?_
    refine V_icmp_ne X 26 (hR _ _) ⟨by decide, by decide⟩ dX7_round_19 (by decide) (fun q5 => ?_) (fun q5 => ?_)
    · skip
      refine V_iconst X dX7_round_26 ?_
      refine V_callV_I X (na := 1) (ci := 7) (b0 := 89) (by decide) (rfl) (by decide) rfl (m_X7_fails g l hl9 σ hR 0 ⟨by decide, by decide⟩) gX7_round_X7_fails rfl rfl rfl (by decide +kernel) ⟨Nat.le_of_ble_eq_true rfl, Nat.le_of_ble_eq_true rfl⟩ rfl rfl (Nat.le_of_ble_eq_true rfl) ⟨Nat.le_of_ble_eq_true rfl, Nat.le_of_ble_eq_true rfl⟩ dX7_round_27 (fun z6 u7 z6r hp8 => ?_)
      obtain ⟨hz9, hu9⟩ := hp8
      have hu9 := hu9.symm
      subst hu9
      rw [if_neg (by decide)] at hz9
      subst hz9
      refine V_if_eq X 35 ⟨by decide, by decide⟩ dX7_round_30 (by decide) (fun _ => ?_) (fun h => absurd h (by first | decide | omega))
      refine V_aload_n X 0 rfl dX7_round_35 rfl ?_
      refine V_get X (ci := 7) (89) (by decide) (rfl) (by decide) rfl (fun _ h => List.mem_cons_of_mem _ (List.mem_append_right _ h)) 25 (by decide) (List.mem_of_getElem? (i := 2) rfl) rfl rfl dX7_round_36 ?_
      refine V_aload_n X 0 rfl dX7_round_39 rfl ?_
      refine V_get X (ci := 7) (89) (by decide) (rfl) (by decide) rfl (fun _ h => List.mem_cons_of_mem _ (List.mem_append_right _ h)) 23 (by decide) (List.mem_of_getElem? (i := 1) rfl) rfl rfl dX7_round_40 ?_
      refine V_top (b := σ.1 89 23) (rd_k (by decide)) ?_
      refine V_iload_n X 1 rfl dX7_round_43 rfl ?_
      refine V_iast X (N := 10) (108) (by decide) (rfl) (rfl) (by decide) (r) (hr1) (by omega) dX7_round_44 ?_
      refine V_aload_n X 0 rfl dX7_round_45 rfl ?_
      refine V_dup X rfl dX7_round_46 ?_
      refine V_get X (ci := 7) (89) (by decide) (rfl) (by decide) rfl (fun _ h => List.mem_cons_of_mem _ (List.mem_append_right _ h)) 23 (by decide) (List.mem_of_getElem? (i := 1) rfl) rfl rfl dX7_round_47 ?_
      refine V_top (b := σ.1 89 23) (Eq.trans (rd_n (by decide)) (rd_k (by decide))) ?_
      refine V_iconst X dX7_round_50 ?_
      refine V_iadd X dX7_round_51 ?_
      refine V_put X (ci := 7) (89) (by decide) (rfl) (by decide) rfl (fun _ h => List.mem_cons_of_mem _ (List.mem_append_right _ h)) 23 (by decide) (List.mem_of_getElem? (i := 1) rfl) rfl tyX7 tyX7_ok nmX7 rfl rfl rfl rfl rfl (Nat.le_of_ble_eq_true rfl) dX7_round_52 ?_
      refine V_aload_n X 0 rfl dX7_round_55 rfl ?_
      refine V_iconst X dX7_round_56 ?_
      refine V_put X (ci := 7) (89) (by decide) (rfl) (by decide) rfl (fun _ h => List.mem_cons_of_mem _ (List.mem_append_right _ h)) 24 (by decide) (List.mem_of_getElem? (i := 3) rfl) rfl tyX7 tyX7_ok nmX7 rfl rfl (iN_bool (Or.inr rfl)).1 (iN_bool (Or.inr rfl)).2 rfl (Nat.le_of_ble_eq_true rfl) dX7_round_57 ?_
      refine V_aload_n X 0 rfl dX7_round_60 rfl ?_
      refine V_get X (ci := 7) (89) (by decide) (rfl) (by decide) rfl (fun _ h => List.mem_cons_of_mem _ (List.mem_append_right _ h)) 23 (by decide) (List.mem_of_getElem? (i := 1) rfl) rfl rfl dX7_round_61 ?_
      refine V_top (b := (σ.1 89 23) + 1) (Eq.trans (rd_k (by decide)) rd_s) ?_
      refine V_iconst X dX7_round_64 ?_
      refine V_isub X dX7_round_65 ?_
      refine V_top (b := σ.1 89 23) (by omega) ?_
      exact V_iret X hr rfl (hR _ _) (by exact Or.inl ⟨hT, by omega, rfl, rfl⟩) dX7_round_66 (by decide) (by decide)
    · skip
      refine V_iconst X dX7_round_22 ?_
      refine V_goto X 27 dX7_round_23 (by decide) ?_
      refine V_callV_I X (na := 1) (ci := 7) (b0 := 89) (by decide) (rfl) (by decide) rfl (m_X7_fails g l hl9 σ hR 2 ⟨by decide, by decide⟩) gX7_round_X7_fails rfl rfl rfl (by decide +kernel) ⟨Nat.le_of_ble_eq_true rfl, Nat.le_of_ble_eq_true rfl⟩ rfl rfl (Nat.le_of_ble_eq_true rfl) ⟨Nat.le_of_ble_eq_true rfl, Nat.le_of_ble_eq_true rfl⟩ dX7_round_27 (fun z10 u11 z10r hp12 => ?_)
      obtain ⟨hz9, hu13⟩ := hp12
      have hu13 := hu13.symm
      subst hu13
      rw [if_pos (by decide)] at hz9
      subst hz9
      refine V_if_eq X 35 ⟨by decide, by decide⟩ dX7_round_30 (by decide) (fun h => absurd h (by first | decide | omega)) (fun _ => ?_)
      refine V_iconst X dX7_round_33 ?_
      exact V_iret X hr rfl ⟨by decide, by decide⟩ (by exact Or.inr (Or.inr ⟨hT, by omega, rfl⟩)) dX7_round_34 (by decide) (by decide)
  · skip
    rw [if_neg hT] at hz9
    subst hz9
    refine V_if_eq X 13 ⟨by decide, by decide⟩ dX7_round_6 (by decide) (fun h => absurd h (by first | decide | omega)) (fun _ => ?_)
    refine V_iconst X dX7_round_9 ?_
    refine V_goto X 27 dX7_round_10 (by decide) ?_
    refine V_callV_I X (na := 1) (ci := 7) (b0 := 89) (by decide) (rfl) (by decide) rfl (m_X7_fails g l hl9 σ hR 1 ⟨by decide, by decide⟩) gX7_round_X7_fails rfl rfl rfl (by decide +kernel) ⟨Nat.le_of_ble_eq_true rfl, Nat.le_of_ble_eq_true rfl⟩ rfl rfl (Nat.le_of_ble_eq_true rfl) ⟨Nat.le_of_ble_eq_true rfl, Nat.le_of_ble_eq_true rfl⟩ dX7_round_27 (fun z14 u15 z14r hp16 => ?_)
    obtain ⟨hz9, hu17⟩ := hp16
    have hu17 := hu17.symm
    subst hu17
    rw [if_pos (by decide)] at hz9
    subst hz9
    refine V_if_eq X 35 ⟨by decide, by decide⟩ dX7_round_30 (by decide) (fun h => absurd h (by first | decide | omega)) (fun _ => ?_)
    refine V_iconst X dX7_round_33 ?_
    exact V_iret X hr rfl ⟨by decide, by decide⟩ (by exact Or.inr (Or.inl ⟨hT, rfl⟩)) dX7_round_34 (by decide) (by decide)
set_option maxRecDepth 100000 in
set_option maxHeartbeats 4000000 in
theorem m_X7_shut (g : Geo) (l : Launch) (hl9 : l.stackTraces = false) (σ : St) (hR : RG σ) (hr10 : 0 ≤ σ.1 89 23 ∧ σ.1 89 23 ≤ 10) : Met l yX7_shut wsX7_shut ({ frames := 1, cells := 0, slots := 0, locals := 21 }) (va_Pc [.ref (ga g (89))] (World g σ)) (QI g (fun z u => (¬ σ.1 89 24 = 0 ∧ z = σ.1 89 23 - 1 ∧ u = sw (sw σ 89 0 0) 89 24 0) ∨ (σ.1 89 24 = 0 ∧ u = sw σ 89 0 1))) 0 0 (gA g) := by
  refine V_met hl9 (by decide) rfl (Nat.le_of_ble_eq_true rfl) ?_
  intro p9 e9 s9 m9 b9 t9 c9 X hr _
  refine V_lv (lv' := [(0, .ref (ga g (89)))]) rfl ?_
  refine V_aload_n X 0 rfl dX7_shut_0 rfl ?_
  refine V_aload_n X 0 rfl dX7_shut_1 rfl ?_
  refine V_get X (ci := 7) (89) (by decide) (rfl) (by decide) rfl (fun _ h => List.mem_cons_of_mem _ (List.mem_append_right _ h)) 24 (by decide) (List.mem_of_getElem? (i := 1) rfl) rfl rfl dX7_shut_2 ?_
  refine V_if_eq X 12 (hR _ _) dX7_shut_5 (by decide) (fun q1 => ?_) (fun q1 => ?_)
  · skip
    refine V_iconst X dX7_shut_12 ?_
    refine V_callV_I X (na := 1) (ci := 7) (b0 := 89) (by decide) (rfl) (by decide) rfl (m_X7_fails g l hl9 σ hR 1 ⟨by decide, by decide⟩) gX7_shut_X7_fails rfl rfl rfl (by decide +kernel) ⟨Nat.le_of_ble_eq_true rfl, Nat.le_of_ble_eq_true rfl⟩ rfl rfl (Nat.le_of_ble_eq_true rfl) ⟨Nat.le_of_ble_eq_true rfl, Nat.le_of_ble_eq_true rfl⟩ dX7_shut_13 (fun z2 u3 z2r hp4 => ?_)
    obtain ⟨hz9, hu5⟩ := hp4
    have hu5 := hu5.symm
    subst hu5
    rw [if_pos (by decide)] at hz9
    subst hz9
    refine V_if_eq X 21 ⟨by decide, by decide⟩ dX7_shut_16 (by decide) (fun h => absurd h (by first | decide | omega)) (fun _ => ?_)
    refine V_iconst X dX7_shut_19 ?_
    exact V_iret X hr rfl ⟨by decide, by decide⟩ (by exact Or.inr ⟨by omega, rfl⟩) dX7_shut_20 (by decide) (by decide)
  · skip
    refine V_iconst X dX7_shut_8 ?_
    refine V_goto X 13 dX7_shut_9 (by decide) ?_
    refine V_callV_I X (na := 1) (ci := 7) (b0 := 89) (by decide) (rfl) (by decide) rfl (m_X7_fails g l hl9 σ hR 0 ⟨by decide, by decide⟩) gX7_shut_X7_fails rfl rfl rfl (by decide +kernel) ⟨Nat.le_of_ble_eq_true rfl, Nat.le_of_ble_eq_true rfl⟩ rfl rfl (Nat.le_of_ble_eq_true rfl) ⟨Nat.le_of_ble_eq_true rfl, Nat.le_of_ble_eq_true rfl⟩ dX7_shut_13 (fun z6 u7 z6r hp8 => ?_)
    obtain ⟨hz9, hu9⟩ := hp8
    have hu9 := hu9.symm
    subst hu9
    rw [if_neg (by decide)] at hz9
    subst hz9
    refine V_if_eq X 21 ⟨by decide, by decide⟩ dX7_shut_16 (by decide) (fun _ => ?_) (fun h => absurd h (by first | decide | omega))
    refine V_aload_n X 0 rfl dX7_shut_21 rfl ?_
    refine V_iconst X dX7_shut_22 ?_
    refine V_put X (ci := 7) (89) (by decide) (rfl) (by decide) rfl (fun _ h => List.mem_cons_of_mem _ (List.mem_append_right _ h)) 24 (by decide) (List.mem_of_getElem? (i := 1) rfl) rfl tyX7 tyX7_ok nmX7 rfl rfl (iN_bool (Or.inl rfl)).1 (iN_bool (Or.inl rfl)).2 rfl (Nat.le_of_ble_eq_true rfl) dX7_shut_23 ?_
    refine V_aload_n X 0 rfl dX7_shut_26 rfl ?_
    refine V_get X (ci := 7) (89) (by decide) (rfl) (by decide) rfl (fun _ h => List.mem_cons_of_mem _ (List.mem_append_right _ h)) 23 (by decide) (List.mem_of_getElem? (i := 2) rfl) rfl rfl dX7_shut_27 ?_
    refine V_top (b := σ.1 89 23) (Eq.trans (rd_k (by decide)) (rd_k (by decide))) ?_
    refine V_iconst X dX7_shut_30 ?_
    refine V_isub X dX7_shut_31 ?_
    exact V_iret X hr rfl ⟨by omega, by omega⟩ (by exact Or.inl ⟨by omega, rfl, rfl⟩) dX7_shut_32 (by decide) (by decide)
