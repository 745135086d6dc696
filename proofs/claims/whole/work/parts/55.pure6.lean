/-! ===== a lap given back ===== -/
theorem JJ.p_give {σ : St} {n ty R D a : Nat} (h : JJ σ n ty R D) (ha : a < n) (hv : ¬ σ.1 107 a = 0) : JJ (sw (sw (sw σ (7 + 2 * a) 9 1) 89 0 0) 107 a 0) n ty R D := by
  have hn30 := h.LB.2.1
  have hlm := h.ltM
  have hG : RG (sw (sw (sw σ (7 + 2 * a) 9 1) 89 0 0) 107 a 0) := ((h.1.sw _ _ ⟨by decide, by decide⟩).sw _ _ R32_0).sw _ _ R32_0
  have key : ∀ q, q ≠ 7 + 2 * a → q ≠ 89 → q ≠ 107 → (sw (sw (sw σ (7 + 2 * a) 9 1) 89 0 0) 107 a 0).1 q = σ.1 q := fun q h1 h2 h3 => by
    rw [sw_ne h3, sw_ne h2, sw_ne h1]
  have k89 : ∀ k, k ≠ 0 → (sw (sw (sw σ (7 + 2 * a) 9 1) 89 0 0) 107 a 0).1 89 k = σ.1 89 k := fun k hk => by
    rw [rd_n (by decide), rd_k hk, rd_n (by omega)]
  have kL : ∀ k, (sw (sw (sw σ (7 + 2 * a) 9 1) 89 0 0) 107 a 0).1 (7 + 2 * a) k = if k = 9 then 1 else σ.1 (7 + 2 * a) k := fun k => by
    rw [rd_n (by omega), rd_n (by omega), sw_get]
    simp
  have k107 : ∀ k, (sw (sw (sw σ (7 + 2 * a) 9 1) 89 0 0) 107 a 0).1 107 k = if k = a then 0 else σ.1 107 k := fun k => by
    rw [sw_get, rd_n (by decide), rd_n (by omega)]
    simp
  have rr : ∀ t c, rideM (sw (sw (sw σ (7 + 2 * a) 9 1) 89 0 0) 107 a 0) t c = rideM σ t c ∧ lenM (sw (sw (sw σ (7 + 2 * a) 9 1) 89 0 0) 107 a 0) t = lenM σ t := fun t c => rideM_rows (key 90 (by omega) (by decide) (by decide)) (key 91 (by omega) (by decide) (by decide)) (key 92 (by omega) (by decide) (by decide)) (key 93 (by omega) (by decide) (by decide)) (key 94 (by omega) (by decide) (by decide)) (key 95 (by omega) (by decide) (by decide))
  obtain ⟨hRG, hC, ⟨hTM, hCM⟩, hI, hS, hT, hK, hL⟩ := h
  have pp : ∀ l, prtM (sw (sw (sw σ (7 + 2 * a) 9 1) 89 0 0) 107 a 0) l = prtM σ l := fun l => prtM_of (by rw [key 106 (by omega) (by decide) (by decide)]) (key 98 (by omega) (by decide) (by decide)) (key 97 (by omega) (by decide) (by decide))
  have ii : ∀ l, inM (sw (sw (sw σ (7 + 2 * a) 9 1) 89 0 0) 107 a 0) l = inM σ l := fun l => by unfold inM; rw [key 97 (by omega) (by decide) (by decide)]
  refine ⟨hG, hC.of (key 0 (by omega) (by decide) (by decide)) (by rw [key 5 (by omega) (by decide) (by decide)]) (key 67 (by omega) (by decide) (by decide)) (fun k h1 _ => k89 k h1), ⟨hTM.of (key 90 (by omega) (by decide) (by decide)) (key 91 (by omega) (by decide) (by decide)) (key 92 (by omega) (by decide) (by decide)), hCM.of (key 93 (by omega) (by decide) (by decide)) (key 94 (by omega) (by decide) (by decide)) (key 95 (by omega) (by decide) (by decide))⟩, hI.of (key 3 (by omega) (by decide) (by decide)) (key 96 (by omega) (by decide) (by decide)) (key 97 (by omega) (by decide) (by decide)) (fun l q => key _ (by omega) (by omega) (by omega)), fun q hq => ?_, fun t ht => ?_, fun c hc4 => ?_, fun l hl => ?_⟩
  · rw [key 68 (by omega) (by decide) (by decide), key 108 (by omega) (by decide) (by decide)]
    exact hS q hq
  · exact (hT t ht).tr (key _ (by omega) (by omega) (by omega)) (key _ (by omega) (by omega) (by omega)) (key _ (by omega) (by omega) (by omega)) (key 90 (by omega) (by decide) (by decide)) (key 91 (by omega) (by decide) (by decide)) (key 92 (by omega) (by decide) (by decide)) (key 102 (by omega) (by decide) (by decide))
  · have hk := hK c hc4
    unfold JK at hk ⊢
    rw [key 93 (by omega) (by decide) (by decide), key 94 (by omega) (by decide) (by decide), key 95 (by omega) (by decide) (by decide), key (85 + c) (by omega) (by omega) (by omega)]
    exact hk
  · have hm2 := (hL l hl).2.1
    unfold MR at hm2
    have hb : ∀ q : Nat, q < n → (sw (sw (sw σ (7 + 2 * a) 9 1) 89 0 0) 107 a 0).1 (7 + 2 * q) 11 = σ.1 (7 + 2 * q) 11 := fun q hq => by
      by_cases e : q = a
      · subst e; rw [kL]; simp
      · rw [key _ (by omega) (by omega) (by omega)]
    by_cases e : l = a
    · subst e
      obtain ⟨e1, m, b, d, i, r⟩ := hL l hl
      refine ⟨?_, ?_, ?_, ?_, ?_, ?_⟩
      · unfold JE at e1 ⊢
        rw [pp, kL, kL, kL, kL, kL, kL, kL, kL, kL, kL, kL, key 100 (by omega) (by decide) (by decide), key 98 (by omega) (by decide) (by decide), key 99 (by omega) (by decide) (by decide), key 101 (by omega) (by decide) (by decide), key 102 (by omega) (by decide) (by decide), key 103 (by omega) (by decide) (by decide), key 104 (by omega) (by decide) (by decide), key 105 (by omega) (by decide) (by decide), key 106 (by omega) (by decide) (by decide), k107]
        simp
        omega
      · unfold MR at m ⊢
        rw [key 100 (by omega) (by decide) (by decide), key 98 (by omega) (by decide) (by decide), key 99 (by omega) (by decide) (by decide), key 104 (by omega) (by decide) (by decide), key 106 (by omega) (by decide) (by decide), k107]
        exact ⟨m.1, m.2.1, m.2.2.1, m.2.2.2.1, m.2.2.2.2.1, Or.inl (if_pos rfl)⟩
      · unfold JB at b ⊢
        rw [key 98 (by omega) (by decide) (by decide), key 101 (by omega) (by decide) (by decide), key 102 (by omega) (by decide) (by decide), key 103 (by omega) (by decide) (by decide), k89 1 (by decide), k89 5 (by decide)]
        exact b
      · unfold JD at d ⊢
        rw [hb l hl, key 106 (by omega) (by decide) (by decide), k107]
        refine ⟨d.1, ?_⟩
        rcases d.2 with q | q
        · exact Or.inl q
        · exact Or.inr ⟨q.1, by rw [hb _ (by omega)]; exact q.2.1, by rw [if_neg (by omega)]; exact q.2.2⟩
      · intro k hk
        rw [key 98 (by omega) (by decide) (by decide)] at hk
        rw [key _ (by omega) (by omega) (by omega), ii]
        exact i k hk
      · rw [key 102 (by omega) (by decide) (by decide), key 103 (by omega) (by decide) (by decide), key 98 (by omega) (by decide) (by decide), key 99 (by omega) (by decide) (by decide), ii]
        exact JR.tr r (rr _ _).1 (rr _ 0).2
    · refine (hL l hl).pt (fun b h1 h2 => ?_) (pp l) (key _ (by omega) (by omega) (by omega)) (key _ (by omega) (by omega) (by omega)) (ii l) (fun h1 h2 => ⟨hb _ (by omega), by rw [k107, if_neg (fun z => hv (by rw [z] at h2; exact h2))]; exact h2⟩) (by rw [k89 1 (by decide)]; exact Int.le_refl _) (by rw [k89 5 (by decide)]; exact Int.le_refl _) (rr _ _).1 (rr _ 0).2
      by_cases e2 : b = 107
      · subst e2; rw [k107, if_neg e]
      · rw [key b (by omega) (by omega) e2]
theorem sumF_split {f g : Nat → Int} {m k : Nat} {d : Int} (hk : k < m) (h : ∀ i, i < m → f i = if i = k then g i + d else g i) : sumF f m = sumF g m + d := by
  have key : ∀ i, i ≤ m → sumF f i = sumF g i + if k < i then d else 0 := by
    intro i
    induction i with
    | zero => intro _; show (0 : Int) = 0 + _; rw [if_neg (by omega)]; rfl
    | succ i ih =>
      intro hi
      rw [sumF, sumF, ih (by omega), h i (by omega)]
      by_cases e : i = k
      · subst e
        rw [if_pos rfl, if_neg (by omega), if_pos (by omega)]
        omega
      · rw [if_neg e]
        by_cases e2 : k < i
        · rw [if_pos e2, if_pos (by omega)]; omega
        · rw [if_neg e2, if_neg (by omega)]; omega
  have := key m (Nat.le_refl m)
  rwa [if_pos hk] at this
theorem drvM_no {σ : St} {a : Int} {n : Nat} (h : drvM σ a n = 0) : ∀ l, l < n → ¬ σ.1 102 l = a := by
  induction n with
  | zero => intro l hl; omega
  | succ n ih =>
    intro l hl
    rw [drvM] at h
    by_cases q : σ.1 102 n = a
    · rw [if_pos q] at h; omega
    · rw [if_neg q] at h
      by_cases e : l = n
      · subst e; exact q
      · exact ih h l (by omega)
theorem JJ.p_stretch {σ : St} {n ty R D t : Nat} {len lim : Int} (h : JJ σ n ty R D) (ht : t < 4) (hdr : σ.1 (73 + 3 * t) 4 = 0) (h12 : σ.1 90 t < 12) (hlen : 1 ≤ len ∧ len ≤ 30) (hlim : 1 ≤ lim ∧ lim ≤ 9) :
    JJ (strM (appF σ t (σ.1 (73 + 3 * t) 2).toNat len lim) t (σ.1 90 t).toNat len lim) n ty R D ∧ lenM (strM (appF σ t (σ.1 (73 + 3 * t) 2).toNat len lim) t (σ.1 90 t).toNat len lim) t = σ.1 (73 + 3 * t) 3 + len := by
  have hn30 := h.LB.2.1
  have hlm := h.ltM
  have hTk := h.Tk t ht
  obtain ⟨hRG, hC, ⟨hTM, hCM⟩, hI, hS, hT, hK, hL⟩ := h
  obtain ⟨t1, t2, t3, t4⟩ := hT t ht
  have h0 := (hTM.1 t ht).1
  rw [t1]
  obtain ⟨k, hk⟩ : ∃ k : Nat, σ.1 90 t = (k : Int) := ⟨(σ.1 90 t).toNat, by omega⟩
  rw [hk, Int.toNat_natCast]
  have hk12 : k < 12 := by omega
  have hlb := lenM_b hTM ht
  obtain ⟨u, hu⟩ : ∃ u, u = strM (appF σ t k len lim) t k len lim := ⟨_, rfl⟩
  rw [← hu]
  have hG : RG u := by
    rw [hu]
    unfold strM appF
    refine (((((((hRG.sw _ _ ⟨by omega, by omega⟩).sw _ _ ⟨by omega, by omega⟩).sw _ _ ⟨by omega, by omega⟩).sw _ _ ⟨by omega, by omega⟩).sw _ _ R32_0).sw _ _ ⟨by omega, by omega⟩).sw _ _ ⟨by omega, by omega⟩).sw _ _ ⟨?_, ?_⟩
    · rw [rd_n (by omega), rd_n (by omega), rd_n (by omega), rd_n (by omega)]; omega
    · rw [rd_n (by omega), rd_n (by omega), rd_n (by omega), rd_n (by omega)]; omega
  have key : ∀ q, q ≠ 73 + 3 * t → q ≠ 73 + 3 * t + 1 → q ≠ 73 + 3 * t + 2 → q ≠ 89 → q ≠ 90 → q ≠ 91 → q ≠ 92 → u.1 q = σ.1 q := fun q h1 h2 h3 h4 h5 h6 h7 => by
    rw [hu]
    unfold strM appF
    rw [sw_ne h5, sw_ne h7, sw_ne h6, sw_ne h4, sw_ne h1, sw_ne h3, sw_ne h2, sw_ne h1]
  have k89 : ∀ j, j ≠ 0 → u.1 89 j = σ.1 89 j := fun j hj => by
    rw [hu]
    unfold strM appF
    rw [rd_n (by decide), rd_n (by decide), rd_n (by decide), rd_k hj, rd_n (by omega), rd_n (by omega), rd_n (by omega), rd_n (by omega)]
  have kt : ∀ j, u.1 (73 + 3 * t) j = if j = 2 then (k : Int) + 1 else if j = 3 then σ.1 (73 + 3 * t) 3 + len else σ.1 (73 + 3 * t) j := fun j => by
    rw [hu]
    unfold strM appF
    rw [rd_n (by omega), rd_n (by omega), rd_n (by omega), rd_n (by omega), sw_get, rd_n (by omega), rd_n (by omega), sw_get]
    by_cases e : j = 2
    · subst e; simp; omega
    · simp [e]
  have kt1 : ∀ j, u.1 (73 + 3 * t + 1) j = if j = k then σ.1 (73 + 3 * t) 3 + len else σ.1 (73 + 3 * t + 1) j := fun j => by
    rw [hu]
    unfold strM appF
    rw [rd_n (by omega), rd_n (by omega), rd_n (by omega), rd_n (by omega), rd_n (by omega), rd_n (by omega), sw_get, rd_n (by omega)]
    simp
  have kt2 : ∀ j, u.1 (73 + 3 * t + 2) j = if j = k then lim else σ.1 (73 + 3 * t + 2) j := fun j => by
    rw [hu]
    unfold strM appF
    rw [rd_n (by omega), rd_n (by omega), rd_n (by omega), rd_n (by omega), rd_n (by omega), sw_get, rd_n (by omega), rd_n (by omega)]
    simp
  have k90 : ∀ j, u.1 90 j = if j = t then (k : Int) + 1 else σ.1 90 j := fun j => by
    rw [hu]
    unfold strM appF
    rw [sw_get, rd_n (by first | decide | omega), rd_n (by first | decide | omega), rd_n (by first | decide | omega), rd_n (by first | decide | omega), rd_n (by first | decide | omega), rd_n (by first | decide | omega), rd_n (by first | decide | omega), rd_n (by first | decide | omega), rd_n (by first | decide | omega), rd_n (by first | decide | omega), rd_n (by first | decide | omega), hk]
    simp
  have k91 : ∀ j, u.1 91 j = if j = 12 * t + k then len else σ.1 91 j := fun j => by
    rw [hu]
    unfold strM appF
    rw [rd_n (by decide), rd_n (by decide), sw_get, rd_n (by decide), rd_n (by omega), rd_n (by omega), rd_n (by omega), rd_n (by omega)]
    simp
  have k92 : ∀ j, u.1 92 j = if j = 12 * t + k then lim else σ.1 92 j := fun j => by
    rw [hu]
    unfold strM appF
    rw [rd_n (by decide), sw_get, rd_n (by decide), rd_n (by decide), rd_n (by omega), rd_n (by omega), rd_n (by omega), rd_n (by omega)]
    simp
  have lr : ∀ t2 j, ¬ (t2 = t ∧ j = k) → j < 12 → lenRow u t2 j = lenRow σ t2 j := fun t2 j h1 h2 => by
    unfold lenRow
    rw [k91, if_neg (by omega)]
  have lrk : lenRow u t k = len := by unfold lenRow; rw [k91, if_pos rfl]
  have sk : ∀ j, j ≤ k → sumF (lenRow u t) j = sumF (lenRow σ t) j := fun j hj => sumF_congr j (fun i hi => lr t i (by omega) (by omega))
  have lt : lenM u t = lenM σ t + len := by
    unfold lenM
    rw [k90, if_pos rfl, hk, show ((k : Int) + 1).toNat = k + 1 by omega, Int.toNat_natCast, sumF, sk k (Nat.le_refl k), lrk]
  have lo : ∀ t2, t2 < 4 → t2 ≠ t → lenM u t2 = lenM σ t2 ∧ limM u t2 = limM σ t2 := fun t2 h2 hne => by
    have hb := hTM.1 t2 h2
    have e0 : u.1 90 t2 = σ.1 90 t2 := by rw [k90, if_neg hne]
    have e1 : ∀ j, j < (σ.1 90 t2).toNat → lenRow u t2 j = lenRow σ t2 j := fun j hj => lr t2 j (by omega) (by omega)
    exact ⟨lenM_of e0 e1, limM_of e0 e1 (fun j hj => by rw [k92, if_neg (by omega)])⟩
  have r102 := key 102 (by omega) (by omega) (by omega) (by decide) (by decide) (by decide) (by decide)
  refine ⟨⟨hG, hC.of (key 0 (by omega) (by omega) (by omega) (by decide) (by decide) (by decide) (by decide)) (by rw [key 5 (by omega) (by omega) (by omega) (by decide) (by decide) (by decide) (by decide)]) (key 67 (by omega) (by omega) (by omega) (by decide) (by decide) (by decide) (by decide)) (fun j h1 _ => k89 j h1), ⟨⟨fun t2 h2 => ?_, fun j hj => ?_⟩, hCM.of (key 93 (by omega) (by omega) (by omega) (by decide) (by decide) (by decide) (by decide)) (key 94 (by omega) (by omega) (by omega) (by decide) (by decide) (by decide) (by decide)) (key 95 (by omega) (by omega) (by omega) (by decide) (by decide) (by decide) (by decide))⟩, hI.of (key 3 (by omega) (by omega) (by omega) (by decide) (by decide) (by decide) (by decide)) (key 96 (by omega) (by omega) (by omega) (by decide) (by decide) (by decide) (by decide)) (key 97 (by omega) (by omega) (by omega) (by decide) (by decide) (by decide) (by decide)) (fun l q => key _ (by omega) (by omega) (by omega) (by omega) (by omega) (by omega) (by omega)), fun q hq => ?_, fun t2 h2 => ?_, fun c hc4 => ?_, fun l hl => ?_⟩, by rw [lt, t2]⟩
  · have := hTM.1 t2 h2
    rw [k90]
    split <;> omega
  · have := hTM.2 j hj
    rw [k91, k92]
    split <;> omega
  · rw [key 68 (by omega) (by omega) (by omega) (by decide) (by decide) (by decide) (by decide), key 108 (by omega) (by omega) (by omega) (by decide) (by decide) (by decide) (by decide)]
    exact hS q hq
  · by_cases e : t2 = t
    · subst e
      refine ⟨by rw [kt, k90, if_pos rfl, if_pos rfl], by rw [kt, lt, ← t2]; simp, fun j hj => ?_, by rw [kt, drvM_of r102]; simp; exact t4⟩
      rw [k90, if_pos rfl] at hj
      have hjk : j ≤ k := by omega
      rw [kt1, kt2, k92]
      by_cases e : j = k
      · subst e
        rw [if_pos rfl, if_pos rfl, if_pos rfl, sumF, sk j (Nat.le_refl j), lrk]
        refine ⟨?_, rfl, hlen.1⟩
        rw [t2]
        unfold lenM
        rw [hk, Int.toNat_natCast]
      · have q := t3 j (by omega)
        rw [if_neg e, if_neg e, if_neg (by omega), sk (j + 1) (by omega), lr _ j (by omega) (by omega)]
        exact q
    · obtain ⟨s1, s2, s3, s4⟩ := hT t2 h2
      have hb := hTM.1 t2 h2
      have hl2 := lo t2 h2 e
      unfold JT
      rw [key (73 + 3 * t2) (by omega) (by omega) (by omega) (by omega) (by omega) (by omega) (by omega), key (73 + 3 * t2 + 1) (by omega) (by omega) (by omega) (by omega) (by omega) (by omega) (by omega), key (73 + 3 * t2 + 2) (by omega) (by omega) (by omega) (by omega) (by omega) (by omega) (by omega), hl2.1, drvM_of r102, k90, if_neg e]
      refine ⟨s1, s2, fun j hj => ?_, s4⟩
      have q := s3 j hj
      rw [k92, if_neg (by omega), lr t2 j (by omega) (by omega), sumF_congr (f := lenRow u t2) (h := lenRow σ t2) (j + 1) (fun i hi => lr t2 i (by omega) (by omega))]
      exact q
  · have hk2 := hK c hc4
    unfold JK at hk2 ⊢
    rw [key 93 (by omega) (by omega) (by omega) (by decide) (by decide) (by decide) (by decide), key 94 (by omega) (by omega) (by omega) (by decide) (by decide) (by decide) (by decide), key 95 (by omega) (by omega) (by omega) (by decide) (by decide) (by decide) (by decide), key (85 + c) (by omega) (by omega) (by omega) (by omega) (by omega) (by omega) (by omega)]
    exact hk2
  · have hb2 := hlm l hl
    have hm2 := (hL l hl).2.1
    unfold MR at hm2
    have hno := drvM_no (t4.symm.trans hdr) l hl
    have hl2 := lo (σ.1 102 l).toNat (by omega) (by omega)
    refine (hL l hl).tr (fun q h1 h2 => key q (by omega) (by omega) (by omega) (by omega) (by omega) (by omega) (by omega)) (key _ (by omega) (by omega) (by omega) (by omega) (by omega) (by omega) (by omega)) (key _ (by omega) (by omega) (by omega) (by omega) (by omega) (by omega) (by omega)) (fun h2 => by rw [key _ (by omega) (by omega) (by omega) (by omega) (by omega) (by omega) (by omega)]) (by rw [k89 1 (by decide)]; exact Int.le_refl _) (by rw [k89 5 (by decide)]; exact Int.le_refl _) (rideM_of hl2.1 hl2.2 ⟨?_, ?_, ?_⟩) hl2.1
    · rw [key 93 (by omega) (by omega) (by omega) (by decide) (by decide) (by decide) (by decide)]
    · rw [key 94 (by omega) (by omega) (by omega) (by decide) (by decide) (by decide) (by decide)]
    · rw [key 95 (by omega) (by omega) (by omega) (by decide) (by decide) (by decide) (by decide)]
