/-! ===== the invariant is kept: cars, penalties, laps given back, stretches ===== -/
theorem JL.pt {σ u : St} {l : Nat} (h : JL σ l) (hM : ∀ b, 98 ≤ b → b ≤ 107 → u.1 b l = σ.1 b l) (hp : prtM u l = prtM σ l) (hE : u.1 (7 + 2 * l) = σ.1 (7 + 2 * l)) (hI : u.1 (7 + 2 * l + 1) = σ.1 (7 + 2 * l + 1)) (h97 : inM u l = inM σ l)
    (hb : 0 ≤ σ.1 106 l → σ.1 107 (σ.1 106 l).toNat = 0 → u.1 (7 + 2 * (σ.1 106 l).toNat) 11 = σ.1 (7 + 2 * (σ.1 106 l).toNat) 11 ∧ u.1 107 (σ.1 106 l).toNat = 0) (h1 : σ.1 89 1 ≤ u.1 89 1) (h5 : σ.1 89 5 ≤ u.1 89 5)
    (hr : rideM u (σ.1 102 l).toNat (σ.1 103 l).toNat = rideM σ (σ.1 102 l).toNat (σ.1 103 l).toNat) (hl : lenM u (σ.1 102 l).toNat = lenM σ (σ.1 102 l).toNat) : JL u l := by
  obtain ⟨e, m, b, d, i, r⟩ := h
  have m98 := hM 98 (by decide) (by decide)
  have m99 := hM 99 (by decide) (by decide)
  have m100 := hM 100 (by decide) (by decide)
  have m101 := hM 101 (by decide) (by decide)
  have m102 := hM 102 (by decide) (by decide)
  have m103 := hM 103 (by decide) (by decide)
  have m104 := hM 104 (by decide) (by decide)
  have m105 := hM 105 (by decide) (by decide)
  have m106 := hM 106 (by decide) (by decide)
  have m107 := hM 107 (by decide) (by decide)
  refine ⟨?_, ?_, ?_, ?_, ?_, ?_⟩
  · unfold JE at e ⊢
    rw [hp, hE, m98, m99, m100, m101, m102, m103, m104, m105, m106, m107]
    exact e
  · unfold MR at m ⊢
    rw [m98, m99, m100, m104, m106, m107]
    exact m
  · unfold JB at b ⊢
    rw [m98, m101, m102, m103]
    omega
  · unfold JD at d ⊢
    rw [hE, m106]
    refine ⟨d.1, ?_⟩
    rcases d.2 with a | a
    · exact Or.inl a
    · have q := hb a.1 a.2.2
      exact Or.inr ⟨a.1, by rw [q.1]; exact a.2.1, q.2⟩
  · intro k hk
    rw [m98] at hk
    rw [hI, i k hk, h97]
  · rw [m102, m103, m98, m99, h97]
    exact JR.tr r hr hl
theorem JJ.p_car {σ : St} {n ty R D c0 : Nat} {a b d : Int} (h : JJ σ n ty R D) (hc0 : σ.1 0 3 = (c0 : Int)) (h4 : c0 < 4) (ha : 1 ≤ a ∧ a ≤ 9) (hb : 1 ≤ b ∧ b ≤ 4) (hd : 0 ≤ d ∧ d ≤ 3) : JJ (carM (carF σ c0 a b d) c0 a b d) n ty R D := by
  have hc := h.2.1
  have hn30 := h.LB.2.1
  have hlm := h.ltM
  unfold JC at hc
  have hG : RG (carM (carF σ c0 a b d) c0 a b d) := by
    unfold carM carF
    refine (((((((((h.1.sw _ _ ⟨by omega, by omega⟩).sw _ _ ⟨by omega, by omega⟩).sw _ _ ⟨by omega, by omega⟩).sw _ _ ⟨by omega, by omega⟩).sw _ _ R32_0).sw _ _ ⟨by omega, by omega⟩).sw _ _ ⟨by omega, by omega⟩).sw _ _ ⟨by omega, by omega⟩).sw _ _ ⟨?_, ?_⟩)
    · simp [sw_get]; omega
    · simp [sw_get]; omega
  have key : ∀ q, q ≠ 85 + c0 → q ≠ 0 → q ≠ 89 → q ≠ 93 → q ≠ 94 → q ≠ 95 → (carM (carF σ c0 a b d) c0 a b d).1 q = σ.1 q := fun q h1 h2 h3 h4 h5 h6 => by
    unfold carM carF
    rw [sw_ne h3, sw_ne h6, sw_ne h5, sw_ne h4, sw_ne h3, sw_ne h2, sw_ne h1, sw_ne h1, sw_ne h1]
  have k89 : ∀ k, (carM (carF σ c0 a b d) c0 a b d).1 89 k = if k = 5 then σ.1 89 5 + 1 else if k = 0 then 0 else σ.1 89 k := fun k => by
    unfold carM carF
    simp [sw_get]
    (repeat' split) <;> omega
  have k0 : ∀ k, (carM (carF σ c0 a b d) c0 a b d).1 0 k = if k = 3 then σ.1 0 3 + 1 else σ.1 0 k := fun k => by
    unfold carM carF
    simp [sw_get]
    (repeat' split) <;> omega
  have k93 : ∀ k, (carM (carF σ c0 a b d) c0 a b d).1 93 k = if k = c0 then a else σ.1 93 k := fun k => by
    unfold carM carF
    rw [rd_n (by decide), rd_n (by decide), rd_n (by decide), sw_get, rd_n (by decide), rd_n (by decide), rd_n (by omega), rd_n (by omega), rd_n (by omega)]
    simp
  have k94 : ∀ k, (carM (carF σ c0 a b d) c0 a b d).1 94 k = if k = c0 then b else σ.1 94 k := fun k => by
    unfold carM carF
    rw [rd_n (by decide), rd_n (by decide), sw_get, rd_n (by decide), rd_n (by decide), rd_n (by decide), rd_n (by omega), rd_n (by omega), rd_n (by omega)]
    simp
  have k95 : ∀ k, (carM (carF σ c0 a b d) c0 a b d).1 95 k = if k = c0 then d else σ.1 95 k := fun k => by
    unfold carM carF
    rw [rd_n (by decide), sw_get, rd_n (by decide), rd_n (by decide), rd_n (by decide), rd_n (by decide), rd_n (by omega), rd_n (by omega), rd_n (by omega)]
    simp
  have kc : ∀ k, (carM (carF σ c0 a b d) c0 a b d).1 (85 + c0) k = if k = 0 then a else if k = 1 then b else if k = 2 then d else σ.1 (85 + c0) k := fun k => by
    unfold carM carF
    rw [rd_n (by omega), rd_n (by omega), rd_n (by omega), rd_n (by omega), rd_n (by omega), rd_n (by omega), sw_get, sw_get, sw_get]
    by_cases e0 : k = 0
    · simp [e0]
    · by_cases e1 : k = 1
      · simp [e1]
      · by_cases e2 : k = 2
        · simp [e2]
        · simp [e0, e1, e2]
  have r90 := key 90 (by omega) (by decide) (by decide) (by decide) (by decide) (by decide)
  have r91 := key 91 (by omega) (by decide) (by decide) (by decide) (by decide) (by decide)
  have r92 := key 92 (by omega) (by decide) (by decide) (by decide) (by decide) (by decide)
  have er : ∀ t k, lenRow (carM (carF σ c0 a b d) c0 a b d) t k = lenRow σ t k := fun t k => by unfold lenRow; rw [r91]
  obtain ⟨hRG, hC, ⟨hTM, hCM⟩, hI, hS, hT, hK, hL⟩ := h
  refine ⟨hG, ?_, ⟨hTM.of r90 r91 r92, fun c hc4 => ?_⟩, hI.of (key 3 (by omega) (by decide) (by decide) (by decide) (by decide) (by decide)) (key 96 (by omega) (by decide) (by decide) (by decide) (by decide) (by decide)) (key 97 (by omega) (by decide) (by decide) (by decide) (by decide) (by decide)) (fun l q => key _ (by omega) (by omega) (by omega) (by omega) (by omega) (by omega)), fun q hq => ?_, fun t ht => ?_, fun c hc4 => ?_, fun l hl => ?_⟩
  · unfold JC
    rw [key 5 (by omega) (by decide) (by decide) (by decide) (by decide) (by decide), key 67 (by omega) (by decide) (by decide) (by decide) (by decide) (by decide)]
    simp only [k0, k89]
    simp
    omega
  · have := hCM c hc4
    rw [k93, k94, k95]
    split <;> omega
  · rw [key 68 (by omega) (by decide) (by decide) (by decide) (by decide) (by decide), key 108 (by omega) (by decide) (by decide) (by decide) (by decide) (by decide)]
    exact hS q hq
  · exact (hT t ht).tr (key _ (by omega) (by omega) (by omega) (by omega) (by omega) (by omega)) (key _ (by omega) (by omega) (by omega) (by omega) (by omega) (by omega)) (key _ (by omega) (by omega) (by omega) (by omega) (by omega) (by omega)) r90 r91 r92 (key 102 (by omega) (by decide) (by decide) (by decide) (by decide) (by decide))
  · have hk := hK c hc4
    unfold JK at hk ⊢
    rw [k93, k94, k95]
    by_cases e : c = c0
    · subst e
      rw [kc, kc, kc]
      simp
    · rw [if_neg e, if_neg e, if_neg e, key (85 + c) (by omega) (by omega) (by omega) (by omega) (by omega) (by omega)]
      exact hk
  · have hb2 := (hL l hl).2.2.1
    have hm2 := (hL l hl).2.1
    unfold JB at hb2
    unfold MR at hm2
    have e1 := lenM_of (σ := σ) (u := carM (carF σ c0 a b d) c0 a b d) (t := (σ.1 102 l).toNat) (by rw [r90]) (fun k _ => er _ k)
    refine (hL l hl).tr (fun q h1 h2 => key q (by omega) (by omega) (by omega) (by omega) (by omega) (by omega)) (key _ (by omega) (by omega) (by omega) (by omega) (by omega) (by omega)) (key _ (by omega) (by omega) (by omega) (by omega) (by omega) (by omega)) (fun h2 => by rw [key _ (by omega) (by omega) (by omega) (by omega) (by omega) (by omega)]) (by rw [k89]; simp) (by rw [k89]; simp; omega) (rideM_of e1 (limM_of (by rw [r90]) (fun k _ => er _ k) (fun k _ => by rw [r92])) ?_) e1
    rw [k93, k94, k95, if_neg (by omega), if_neg (by omega), if_neg (by omega)]
    exact ⟨rfl, rfl, rfl⟩
theorem JJ.p_penalty {σ : St} {n ty R D a : Nat} {v : Int} (h : JJ σ n ty R D) (ha : a < n) (hv : 0 ≤ v ∧ v ≤ 9999) : JJ (sw (sw (sw σ (7 + 2 * a) 8 v) 89 0 0) 100 a v) n ty R D := by
  have hn30 := h.LB.2.1
  have hlm := h.ltM
  have hG : RG (sw (sw (sw σ (7 + 2 * a) 8 v) 89 0 0) 100 a v) := ((h.1.sw _ _ ⟨by omega, by omega⟩).sw _ _ R32_0).sw _ _ ⟨by omega, by omega⟩
  have key : ∀ q, q ≠ 7 + 2 * a → q ≠ 89 → q ≠ 100 → (sw (sw (sw σ (7 + 2 * a) 8 v) 89 0 0) 100 a v).1 q = σ.1 q := fun q h1 h2 h3 => by
    rw [sw_ne h3, sw_ne h2, sw_ne h1]
  have k89 : ∀ k, k ≠ 0 → (sw (sw (sw σ (7 + 2 * a) 8 v) 89 0 0) 100 a v).1 89 k = σ.1 89 k := fun k hk => by
    rw [rd_n (by decide), rd_k hk, rd_n (by omega)]
  have kL : ∀ k, (sw (sw (sw σ (7 + 2 * a) 8 v) 89 0 0) 100 a v).1 (7 + 2 * a) k = if k = 8 then v else σ.1 (7 + 2 * a) k := fun k => by
    rw [rd_n (by omega), rd_n (by omega), sw_get]
    simp
  have k100 : ∀ k, (sw (sw (sw σ (7 + 2 * a) 8 v) 89 0 0) 100 a v).1 100 k = if k = a then v else σ.1 100 k := fun k => by
    rw [sw_get, rd_n (by decide), rd_n (by omega)]
    simp
  have rr : ∀ t c, rideM (sw (sw (sw σ (7 + 2 * a) 8 v) 89 0 0) 100 a v) t c = rideM σ t c ∧ lenM (sw (sw (sw σ (7 + 2 * a) 8 v) 89 0 0) 100 a v) t = lenM σ t := fun t c => rideM_rows (key 90 (by omega) (by decide) (by decide)) (key 91 (by omega) (by decide) (by decide)) (key 92 (by omega) (by decide) (by decide)) (key 93 (by omega) (by decide) (by decide)) (key 94 (by omega) (by decide) (by decide)) (key 95 (by omega) (by decide) (by decide))
  obtain ⟨hRG, hC, ⟨hTM, hCM⟩, hI, hS, hT, hK, hL⟩ := h
  have pp : ∀ l, prtM (sw (sw (sw σ (7 + 2 * a) 8 v) 89 0 0) 100 a v) l = prtM σ l := fun l => prtM_of (by rw [key 106 (by omega) (by decide) (by decide)]) (key 98 (by omega) (by decide) (by decide)) (key 97 (by omega) (by decide) (by decide))
  have ii : ∀ l, inM (sw (sw (sw σ (7 + 2 * a) 8 v) 89 0 0) 100 a v) l = inM σ l := fun l => by unfold inM; rw [key 97 (by omega) (by decide) (by decide)]
  refine ⟨hG, hC.of (key 0 (by omega) (by decide) (by decide)) (by rw [key 5 (by omega) (by decide) (by decide)]) (key 67 (by omega) (by decide) (by decide)) (fun k h1 _ => k89 k h1), ⟨hTM.of (key 90 (by omega) (by decide) (by decide)) (key 91 (by omega) (by decide) (by decide)) (key 92 (by omega) (by decide) (by decide)), hCM.of (key 93 (by omega) (by decide) (by decide)) (key 94 (by omega) (by decide) (by decide)) (key 95 (by omega) (by decide) (by decide))⟩, hI.of (key 3 (by omega) (by decide) (by decide)) (key 96 (by omega) (by decide) (by decide)) (key 97 (by omega) (by decide) (by decide)) (fun l q => key _ (by omega) (by omega) (by omega)), fun q hq => ?_, fun t ht => ?_, fun c hc4 => ?_, fun l hl => ?_⟩
  · rw [key 68 (by omega) (by decide) (by decide), key 108 (by omega) (by decide) (by decide)]
    exact hS q hq
  · exact (hT t ht).tr (key _ (by omega) (by omega) (by omega)) (key _ (by omega) (by omega) (by omega)) (key _ (by omega) (by omega) (by omega)) (key 90 (by omega) (by decide) (by decide)) (key 91 (by omega) (by decide) (by decide)) (key 92 (by omega) (by decide) (by decide)) (key 102 (by omega) (by decide) (by decide))
  · have hk := hK c hc4
    unfold JK at hk ⊢
    rw [key 93 (by omega) (by decide) (by decide), key 94 (by omega) (by decide) (by decide), key 95 (by omega) (by decide) (by decide), key (85 + c) (by omega) (by omega) (by omega)]
    exact hk
  · have hm2 := (hL l hl).2.1
    unfold MR at hm2
    have hb : ∀ q : Nat, q < n → (sw (sw (sw σ (7 + 2 * a) 8 v) 89 0 0) 100 a v).1 (7 + 2 * q) 11 = σ.1 (7 + 2 * q) 11 := fun q hq => by
      by_cases e : q = a
      · subst e; rw [kL]; simp
      · rw [key _ (by omega) (by omega) (by omega)]
    by_cases e : l = a
    · subst e
      obtain ⟨e1, m, b, d, i, r⟩ := hL l hl
      refine ⟨?_, ?_, ?_, ?_, ?_, ?_⟩
      · unfold JE at e1 ⊢
        rw [pp, kL, kL, kL, kL, kL, kL, kL, kL, kL, kL, kL, k100, key 98 (by omega) (by decide) (by decide), key 99 (by omega) (by decide) (by decide), key 101 (by omega) (by decide) (by decide), key 102 (by omega) (by decide) (by decide), key 103 (by omega) (by decide) (by decide), key 104 (by omega) (by decide) (by decide), key 105 (by omega) (by decide) (by decide), key 106 (by omega) (by decide) (by decide), key 107 (by omega) (by decide) (by decide)]
        simp
        omega
      · unfold MR at m ⊢
        rw [k100, key 98 (by omega) (by decide) (by decide), key 99 (by omega) (by decide) (by decide), key 104 (by omega) (by decide) (by decide), key 106 (by omega) (by decide) (by decide), key 107 (by omega) (by decide) (by decide)]
        simp only [if_true]
        omega
      · unfold JB at b ⊢
        rw [key 98 (by omega) (by decide) (by decide), key 101 (by omega) (by decide) (by decide), key 102 (by omega) (by decide) (by decide), key 103 (by omega) (by decide) (by decide), k89 1 (by decide), k89 5 (by decide)]
        exact b
      · unfold JD at d ⊢
        rw [hb l hl, key 106 (by omega) (by decide) (by decide), key 107 (by omega) (by decide) (by decide)]
        refine ⟨d.1, ?_⟩
        rcases d.2 with q | q
        · exact Or.inl q
        · exact Or.inr ⟨q.1, by rw [hb _ (by omega)]; exact q.2.1, q.2.2⟩
      · intro k hk
        rw [key 98 (by omega) (by decide) (by decide)] at hk
        rw [key _ (by omega) (by omega) (by omega), ii]
        exact i k hk
      · rw [key 102 (by omega) (by decide) (by decide), key 103 (by omega) (by decide) (by decide), key 98 (by omega) (by decide) (by decide), key 99 (by omega) (by decide) (by decide), ii]
        exact JR.tr r (rr _ _).1 (rr _ 0).2
    · refine (hL l hl).pt (fun b h1 h2 => ?_) (pp l) (key _ (by omega) (by omega) (by omega)) (key _ (by omega) (by omega) (by omega)) (ii l) (fun h1 h2 => ⟨hb _ (by omega), by rw [key 107 (by omega) (by decide) (by decide)]; exact h2⟩) (by rw [k89 1 (by decide)]; exact Int.le_refl _) (by rw [k89 5 (by decide)]; exact Int.le_refl _) (rr _ _).1 (rr _ 0).2
      by_cases e2 : b = 100
      · subst e2; rw [k100, if_neg e]
      · rw [key b (by omega) (by omega) e2]
