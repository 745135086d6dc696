/-! ===== the invariant is kept: small calls ===== -/
theorem JJ.of {σ u : St} {n ty R D ty2 R2 D2 : Nat} (h : JJ σ n ty R D) (hG : RG u) (hC : JC u n ty2 R2 D2) (hI : JI u ty2) (hS : JS u R2) (hM : ∀ a, 90 ≤ a → a ≤ 107 → a ≠ 96 → u.1 a = σ.1 a) (hT : ∀ a, 73 ≤ a → a < 89 → u.1 a = σ.1 a)
    (hL : ∀ a, 7 ≤ a → a < 67 → u.1 a = σ.1 a) (h1 : σ.1 89 1 ≤ u.1 89 1) (h5 : σ.1 89 5 ≤ u.1 89 5) : JJ u n ty2 R2 D2 := by
  have hn30 : n ≤ 30 := h.LB.2.1
  obtain ⟨-, -, ⟨hTM, hCM⟩, -, -, ht, hk, hl⟩ := h
  have m90 := hM 90 (by decide) (by decide) (by decide)
  have m91 := hM 91 (by decide) (by decide) (by decide)
  have m92 := hM 92 (by decide) (by decide) (by decide)
  have m93 := hM 93 (by decide) (by decide) (by decide)
  have m94 := hM 94 (by decide) (by decide) (by decide)
  have m95 := hM 95 (by decide) (by decide) (by decide)
  have m102 := hM 102 (by decide) (by decide) (by decide)
  have hrr := fun t c => rideM_rows (σ := σ) (u := u) (t := t) (c := c) m90 m91 m92 m93 m94 m95
  refine ⟨hG, hC, ⟨hTM.of m90 m91 m92, hCM.of m93 m94 m95⟩, hI, hS, fun t q => ?_, fun c q => ?_, fun l q => ?_⟩
  · exact (ht t q).tr (hT _ (by omega) (by omega)) (hT _ (by omega) (by omega)) (hT _ (by omega) (by omega)) m90 m91 m92 m102
  · have := hk c q
    unfold JK at this ⊢
    rw [hT (85 + c) (by omega) (by omega), m93, m94, m95]
    exact this
  · have hm := (hl l q).2.1
    unfold MR at hm
    exact (hl l q).tr (fun a h2 h3 => hM a (by omega) h3 (by omega)) (hL _ (by omega) (by omega)) (hL _ (by omega) (by omega)) (fun h2 => by rw [hL _ (by omega) (by omega)]) h1 h5 (hrr _ _).1 (hrr _ 0).2
theorem JJ.out {σ : St} {n ty R D : Nat} (h : JJ σ n ty R D) (x : Int × UInt64) : JJ (σ.1, x) n ty R D := h.scr ⟨fun _ _ _ => rfl, h.1⟩
theorem JJ.p_track {σ : St} {n ty R D : Nat} (h : JJ σ n ty R D) (h4 : σ.1 0 1 < 4) : JJ (sw (sw (sw σ 0 1 (σ.1 0 1 + 1)) 89 0 0) 89 1 (σ.1 89 1 + 1)) n ty R D := by
  have hc := h.2.1
  have hc2 := hc
  unfold JC at hc
  refine h.of (((h.1.sw _ _ ⟨by omega, by omega⟩).sw _ _ R32_0).sw _ _ ⟨by omega, by omega⟩) ?_ (h.2.2.2.1.of ?_ ?_ ?_ (fun l q => ?_)) (fun q hq => ?_) (fun a q1 q2 q3 => ?_) (fun a q1 q2 => ?_) (fun a q1 q2 => ?_) ?_ ?_
  · unfold JC
    simp [sw_get]
    omega
  · rw [sw_ne (by decide), sw_ne (by decide), sw_ne (by decide)]
  · rw [sw_ne (by decide), sw_ne (by decide), sw_ne (by decide)]
  · rw [sw_ne (by decide), sw_ne (by decide), sw_ne (by decide)]
  · rw [sw_ne (by omega), sw_ne (by omega), sw_ne (by omega)]
  · have := h.2.2.2.2.1 q hq
    rw [sw_ne (by decide), sw_ne (by decide), sw_ne (by decide), sw_ne (by decide), sw_ne (by decide), sw_ne (by decide)]
    exact this
  · rw [sw_ne (by omega), sw_ne (by omega), sw_ne (by omega)]
  · rw [sw_ne (by omega), sw_ne (by omega), sw_ne (by omega)]
  · rw [sw_ne (by omega), sw_ne (by omega), sw_ne (by omega)]
  · simp [sw_get]; omega
  · simp [sw_get]
theorem JJ.p_wipe {σ : St} {n ty R D : Nat} (h : JJ σ n ty R D) : JJ (sw (sw (sw σ 0 5 0) 89 0 0) 89 9 0) n 0 R D := by
  have hc := h.2.1
  unfold JC at hc
  refine h.of (((h.1.sw _ _ R32_0).sw _ _ R32_0).sw _ _ R32_0) ?_ ?_ (fun q hq => ?_) (fun a q1 q2 q3 => ?_) (fun a q1 q2 => ?_) (fun a q1 q2 => ?_) ?_ ?_
  · unfold JC
    simp [sw_get]
    omega
  · obtain ⟨i1, i2, i3, i4⟩ := h.2.2.2.1
    have e := JI.of (ty := 0) (u := sw (sw (sw σ 0 5 0) 89 0 0) 89 9 0) (σ := σ) ⟨i1, fun i hi => absurd hi (by omega), i3, i4⟩
    refine e ?_ ?_ ?_ (fun l q => ?_)
    · rw [sw_ne (by decide), sw_ne (by decide), sw_ne (by decide)]
    · rw [sw_ne (by decide), sw_ne (by decide), sw_ne (by decide)]
    · rw [sw_ne (by decide), sw_ne (by decide), sw_ne (by decide)]
    · rw [sw_ne (by omega), sw_ne (by omega), sw_ne (by omega)]
  · have := h.2.2.2.2.1 q hq
    rw [sw_ne (by decide), sw_ne (by decide), sw_ne (by decide), sw_ne (by decide), sw_ne (by decide), sw_ne (by decide)]
    exact this
  · rw [sw_ne (by omega), sw_ne (by omega), sw_ne (by omega)]
  · rw [sw_ne (by omega), sw_ne (by omega), sw_ne (by omega)]
  · rw [sw_ne (by omega), sw_ne (by omega), sw_ne (by omega)]
  · simp [sw_get]
  · simp [sw_get]
theorem JJ.p_drop {σ : St} {n ty R D : Nat} {a : Int} (h : JJ σ n ty R D) (ha : 0 ≤ a ∧ a ≤ 3) : JJ (sw (sw (sw σ 67 3 a) 89 0 0) 89 26 a) n ty R a.toNat := by
  have hc := h.2.1
  unfold JC at hc
  refine h.of (((h.1.sw _ _ ⟨by omega, by omega⟩).sw _ _ R32_0).sw _ _ ⟨by omega, by omega⟩) ?_ (h.2.2.2.1.of ?_ ?_ ?_ (fun l q => ?_)) (fun q hq => ?_) (fun a q1 q2 q3 => ?_) (fun a q1 q2 => ?_) (fun a q1 q2 => ?_) ?_ ?_
  · unfold JC
    simp [sw_get]
    omega
  · rw [sw_ne (by decide), sw_ne (by decide), sw_ne (by decide)]
  · rw [sw_ne (by decide), sw_ne (by decide), sw_ne (by decide)]
  · rw [sw_ne (by decide), sw_ne (by decide), sw_ne (by decide)]
  · rw [sw_ne (by omega), sw_ne (by omega), sw_ne (by omega)]
  · have := h.2.2.2.2.1 q hq
    rw [sw_ne (by decide), sw_ne (by decide), sw_ne (by decide), sw_ne (by decide), sw_ne (by decide), sw_ne (by decide)]
    exact this
  · rw [sw_ne (by omega), sw_ne (by omega), sw_ne (by omega)]
  · rw [sw_ne (by omega), sw_ne (by omega), sw_ne (by omega)]
  · rw [sw_ne (by omega), sw_ne (by omega), sw_ne (by omega)]
  · simp [sw_get]
  · simp [sw_get]
theorem JJ.p_shut {σ : St} {n ty R D : Nat} (h : JJ σ n ty R D) (_h2 : ¬ σ.1 67 2 = -1) : JJ (sw (sw (sw σ 67 2 (-1)) 89 0 0) 89 24 0) n ty R D := by
  have hc := h.2.1
  unfold JC at hc
  refine h.of (((h.1.sw _ _ ⟨by decide, by decide⟩).sw _ _ R32_0).sw _ _ R32_0) ?_ (h.2.2.2.1.of ?_ ?_ ?_ (fun l q => ?_)) (fun q hq => ?_) (fun a q1 q2 q3 => ?_) (fun a q1 q2 => ?_) (fun a q1 q2 => ?_) ?_ ?_
  · unfold JC
    simp [sw_get]
    omega
  · rw [sw_ne (by decide), sw_ne (by decide), sw_ne (by decide)]
  · rw [sw_ne (by decide), sw_ne (by decide), sw_ne (by decide)]
  · rw [sw_ne (by decide), sw_ne (by decide), sw_ne (by decide)]
  · rw [sw_ne (by omega), sw_ne (by omega), sw_ne (by omega)]
  · have := h.2.2.2.2.1 q hq
    rw [sw_ne (by decide), sw_ne (by decide), sw_ne (by decide), sw_ne (by decide), sw_ne (by decide), sw_ne (by decide)]
    exact this
  · rw [sw_ne (by omega), sw_ne (by omega), sw_ne (by omega)]
  · rw [sw_ne (by omega), sw_ne (by omega), sw_ne (by omega)]
  · rw [sw_ne (by omega), sw_ne (by omega), sw_ne (by omega)]
  · simp [sw_get]
  · simp [sw_get]
theorem JJ.p_round {σ : St} {n ty R D : Nat} {a : Int} (h : JJ σ n ty R D) (ha : R32 a) (hR : R < 10) : JJ (rndM (opnF σ R a) R a) n ty (R + 1) D := by
  have hc := h.2.1
  unfold JC at hc
  have hG : RG (rndM (opnF σ R a) R a) := by
    unfold rndM opnF
    exact ((((((h.1.sw _ _ ha).sw _ _ (h.1 _ _)).sw _ _ ⟨by omega, by omega⟩).sw _ _ R32_0).sw _ _ ha).sw _ _ ⟨by simp [sw_get]; omega, by simp [sw_get]; omega⟩).sw _ _ ⟨by decide, by decide⟩
  have key : ∀ b, b ≠ 67 → b ≠ 68 → b ≠ 89 → b ≠ 108 → (rndM (opnF σ R a) R a).1 b = σ.1 b := fun b h1 h2 h3 h4 => by
    unfold rndM opnF
    rw [sw_ne h3, sw_ne h3, sw_ne h4, sw_ne h3, sw_ne h1, sw_ne h1, sw_ne h2]
  refine h.of hG ?_ (h.2.2.2.1.of (key _ (by decide) (by decide) (by decide) (by decide)) (key _ (by decide) (by decide) (by decide) (by decide)) (key _ (by decide) (by decide) (by decide) (by decide)) (fun l q => key _ (by omega) (by omega) (by omega) (by omega))) (fun q hq => ?_) (fun a q1 q2 q3 => key _ (by omega) (by omega) (by omega) (by omega)) (fun a q1 q2 => key _ (by omega) (by omega) (by omega) (by omega)) (fun a q1 q2 => key _ (by omega) (by omega) (by omega) (by omega)) ?_ ?_
  · unfold JC rndM opnF
    simp [sw_get]
    omega
  · have := h.2.2.2.2.1
    unfold rndM opnF
    simp [sw_get]
    by_cases e : q = R
    · simp [e]
    · simp [e]; exact this q (by omega)
  · unfold rndM opnF; simp [sw_get]
  · unfold rndM opnF; simp [sw_get]
theorem JJ.p_type {σ : St} {n ty R D : Nat} {a k : Int} (h : JJ σ n ty R D) (ha : 0 ≤ a ∧ a < 65536) (hk : 1 ≤ k ∧ k ≤ 20) (h60 : ty + k.toNat ≤ 60) : JJ (tyM (sw (tyS σ a ty (ty + k.toNat)) 0 5 ((ty + k.toNat : Nat) : Int)) a ty k.toNat) n (ty + k.toNat) R D := by
  have hc := h.2.1
  unfold JC at hc
  have hr : R32 a := ⟨by omega, by omega⟩
  have hG : RG (tyM (sw (tyS σ a ty (ty + k.toNat)) 0 5 ((ty + k.toNat : Nat) : Int)) a ty k.toNat) := tyM_RG ((tyS_RG h.1 hr).sw _ _ ⟨by omega, by omega⟩) hr h60
  have key : ∀ b, b ≠ 0 → b ≠ 3 → b ≠ 96 → b ≠ 89 → (tyM (sw (tyS σ a ty (ty + k.toNat)) 0 5 ((ty + k.toNat : Nat) : Int)) a ty k.toNat).1 b = σ.1 b := fun b h1 h2 h3 h4 => by
    simp only [tyM, if_neg h3, if_neg h4]
    rw [sw_ne h1]
    simp [tyS, h2]
  have k3 : ∀ i, (tyM (sw (tyS σ a ty (ty + k.toNat)) 0 5 ((ty + k.toNat : Nat) : Int)) a ty k.toNat).1 3 i = if ty ≤ i ∧ i < ty + k.toNat then a else σ.1 3 i := fun i => by simp [tyM, sw_ne, tyS]
  have k96 : ∀ i, (tyM (sw (tyS σ a ty (ty + k.toNat)) 0 5 ((ty + k.toNat : Nat) : Int)) a ty k.toNat).1 96 i = if ty ≤ i ∧ i < ty + k.toNat then a else σ.1 96 i := fun i => by simp [tyM, sw_ne, tyS]
  have k89 : ∀ i, (tyM (sw (tyS σ a ty (ty + k.toNat)) 0 5 ((ty + k.toNat : Nat) : Int)) a ty k.toNat).1 89 i = if i = 9 then ((ty + k.toNat : Nat) : Int) else if i = 0 then 0 else σ.1 89 i := fun i => by simp [tyM, sw_ne, tyS, ur]
  have k0 : ∀ i, (tyM (sw (tyS σ a ty (ty + k.toNat)) 0 5 ((ty + k.toNat : Nat) : Int)) a ty k.toNat).1 0 i = if i = 5 then ((ty + k.toNat : Nat) : Int) else σ.1 0 i := fun i => by
    show (sw (tyS σ a ty (ty + k.toNat)) 0 5 ((ty + k.toNat : Nat) : Int)).1 0 i = _
    rw [sw_get]
    by_cases e : i = 5
    · simp [e]
    · simp [e, tyS]
  obtain ⟨i1, i2, i3, i4⟩ := h.2.2.2.1
  refine h.of hG ?_ ⟨fun i hi => ?_, fun i hi => ?_, ?_, fun l q => ?_⟩ (fun q hq => ?_) (fun a q1 q2 q3 => key _ (by omega) (by omega) (by omega) (by omega)) (fun a q1 q2 => key _ (by omega) (by omega) (by omega) (by omega)) (fun a q1 q2 => key _ (by omega) (by omega) (by omega) (by omega)) ?_ ?_
  · unfold JC
    rw [key 5 (by decide) (by decide) (by decide) (by decide), key 67 (by decide) (by decide) (by decide) (by decide)]
    simp only [k0, k89]
    simp
    omega
  · rw [k3, k96]
    have := i1 i hi
    split <;> omega
  · rw [k3, k96]
    split
    · rfl
    · exact i2 i (by omega)
  · rw [key 97 (by decide) (by decide) (by decide) (by decide)]; exact i3
  · rw [key _ (by omega) (by omega) (by omega) (by omega)]; exact i4 l q
  · rw [key 68 (by decide) (by decide) (by decide) (by decide), key 108 (by decide) (by decide) (by decide) (by decide)]
    exact h.2.2.2.2.1 q hq
  · rw [k89]; simp
  · rw [k89]; simp
