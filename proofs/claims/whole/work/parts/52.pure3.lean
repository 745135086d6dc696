/-! ===== the invariant is kept: what doesn't change ===== -/
theorem lenM_of {σ u : St} {t : Nat} (h0 : u.1 90 t = σ.1 90 t) (h1 : ∀ k, k < (σ.1 90 t).toNat → lenRow u t k = lenRow σ t k) : lenM u t = lenM σ t := by
  unfold lenM
  rw [h0]
  exact sumF_congr _ h1
theorem limM_of {σ u : St} {t : Nat} (h0 : u.1 90 t = σ.1 90 t) (h1 : ∀ k, k < (σ.1 90 t).toNat → lenRow u t k = lenRow σ t k) (h2 : ∀ k, k < (σ.1 90 t).toNat → u.1 92 (12 * t + k) = σ.1 92 (12 * t + k)) : limM u t = limM σ t := by
  funext p
  unfold limM
  rw [h0]
  exact limG_congr (K := (σ.1 90 t).toNat) (fun j hj => ⟨sumF_congr (j + 1) (fun i hi => h1 i (by omega)), h2 j hj⟩) _ 0 (by omega)
theorem rideM_of {σ u : St} {t c : Nat} (h1 : lenM u t = lenM σ t) (h2 : limM u t = limM σ t) (h3 : u.1 93 c = σ.1 93 c ∧ u.1 94 c = σ.1 94 c ∧ u.1 95 c = σ.1 95 c) : rideM u t c = rideM σ t c := by
  funext inp
  unfold rideM
  rw [h1, h2, h3.1, h3.2.1, h3.2.2]
theorem JR.tr {σ u : St} {t c : Nat} {inp : Nat → Int} {k time : Int} (h : JR σ t c inp k time) (hr : rideM u t c = rideM σ t c) (hl : lenM u t = lenM σ t) : JR u t c inp k time := by
  unfold JR tmM at h ⊢
  rw [hr, hl]
  exact h
theorem prtM_of {σ u : St} {l : Nat} (h6 : u.1 106 l = σ.1 106 l) (h8 : u.1 98 = σ.1 98) (h7 : u.1 97 = σ.1 97) : prtM u l = prtM σ l := by
  unfold prtM inM
  rw [h6, h8, h7]
theorem drvM_of {σ u : St} {a : Int} (h : u.1 102 = σ.1 102) : ∀ i, drvM u a i = drvM σ a i := by
  intro i
  induction i with
  | zero => rfl
  | succ i ih => rw [drvM, drvM, ih, h]
/-- a lap's row, where the laps' rows, its track and its car stay -/
theorem JL.tr {σ u : St} {l : Nat} (h : JL σ l) (hM : ∀ a, 97 ≤ a → a ≤ 107 → u.1 a = σ.1 a) (hE : u.1 (7 + 2 * l) = σ.1 (7 + 2 * l)) (hI : u.1 (7 + 2 * l + 1) = σ.1 (7 + 2 * l + 1))
    (hb : 0 ≤ σ.1 106 l → u.1 (7 + 2 * (σ.1 106 l).toNat) 11 = σ.1 (7 + 2 * (σ.1 106 l).toNat) 11) (h1 : σ.1 89 1 ≤ u.1 89 1) (h5 : σ.1 89 5 ≤ u.1 89 5)
    (hr : rideM u (σ.1 102 l).toNat (σ.1 103 l).toNat = rideM σ (σ.1 102 l).toNat (σ.1 103 l).toNat) (hl : lenM u (σ.1 102 l).toNat = lenM σ (σ.1 102 l).toNat) : JL u l := by
  obtain ⟨e, m, b, d, i, r⟩ := h
  have m97 := hM 97 (by decide) (by decide)
  have m98 := hM 98 (by decide) (by decide)
  have m99 := hM 99 (by decide) (by decide)
  have m100 := hM 100 (by decide) (by decide)
  have m101 := hM 101 (by decide) (by decide)
  have m102 := hM 102 (by decide) (by decide)
  have m103 := hM 103 (by decide) (by decide)
  have m104 := hM 104 (by decide) (by decide)
  have m105 := hM 105 (by decide) (by decide)
  have m106 := hM 106 (by decide) (by decide)
  have m107 := hM 107 (by decide) (by decide)
  refine ⟨?_, ?_, ?_, ?_, ?_, ?_⟩
  · unfold JE at e ⊢
    rw [prtM_of (by rw [m106]) m98 m97, hE, m98, m99, m100, m101, m102, m103, m104, m105, m106, m107]
    exact e
  · unfold MR at m ⊢
    rw [m98, m99, m100, m104, m106, m107]
    exact m
  · unfold JB at b ⊢
    rw [m98, m101, m102, m103]
    omega
  · unfold JD at d ⊢
    rw [hE, m106, m107]
    refine ⟨d.1, ?_⟩
    rcases d.2 with a | a
    · exact Or.inl a
    · exact Or.inr ⟨a.1, by rw [hb a.1]; exact a.2.1, a.2.2⟩
  · intro k hk
    rw [m98] at hk
    rw [hI, i k hk]
    unfold inM
    rw [m97]
  · have e1 : inM u l = inM σ l := by unfold inM; rw [m97]
    rw [m102, m103, m98, m99, e1]
    exact JR.tr r hr hl
theorem JT.tr {σ u : St} {n t : Nat} (h : JT σ n t) (h0 : u.1 (73 + 3 * t) = σ.1 (73 + 3 * t)) (h1 : u.1 (73 + 3 * t + 1) = σ.1 (73 + 3 * t + 1)) (h2 : u.1 (73 + 3 * t + 2) = σ.1 (73 + 3 * t + 2)) (h3 : u.1 90 = σ.1 90) (h4 : u.1 91 = σ.1 91) (h5 : u.1 92 = σ.1 92) (h6 : u.1 102 = σ.1 102) : JT u n t := by
  have e1 : lenRow u t = lenRow σ t := by unfold lenRow; rw [h4]
  have e2 : lenM u t = lenM σ t := by unfold lenM; rw [e1, h3]
  unfold JT at h ⊢
  rw [e1, e2, drvM_of h6, h0, h1, h2, h3, h5]
  exact h
theorem JC.of {σ u : St} {n ty R D : Nat} (h : JC σ n ty R D) (h0 : u.1 0 = σ.1 0) (h5 : u.1 5 1 = σ.1 5 1) (h67 : u.1 67 = σ.1 67) (h89 : ∀ k, k ≠ 0 → (k < 28 ∨ 31 < k) → u.1 89 k = σ.1 89 k) : JC u n ty R D := by
  unfold JC at h ⊢
  rw [h0, h5, h67, h89 1 (by decide) (by decide), h89 5 (by decide) (by decide), h89 9 (by decide) (by decide), h89 11 (by decide) (by decide), h89 23 (by decide) (by decide), h89 26 (by decide) (by decide), h89 24 (by decide) (by decide)]
  exact h
theorem JI.of {σ u : St} {ty : Nat} (h : JI σ ty) (h3 : u.1 3 = σ.1 3) (h96 : u.1 96 = σ.1 96) (h97 : u.1 97 = σ.1 97) (hl : ∀ l, l < 30 → u.1 (7 + 2 * l + 1) = σ.1 (7 + 2 * l + 1)) : JI u ty := by
  unfold JI at h ⊢
  rw [h3, h96, h97]
  exact ⟨h.1, h.2.1, h.2.2.1, fun l h1 => by rw [hl l h1]; exact h.2.2.2 l h1⟩
theorem TM.of {σ u : St} (h : TM σ) (h0 : u.1 90 = σ.1 90) (h1 : u.1 91 = σ.1 91) (h2 : u.1 92 = σ.1 92) : TM u := by
  unfold TM at h ⊢
  rw [h0, h1, h2]
  exact h
theorem CM.of {σ u : St} (h : CM σ) (h0 : u.1 93 = σ.1 93) (h1 : u.1 94 = σ.1 94) (h2 : u.1 95 = σ.1 95) : CM u := by
  unfold CM at h ⊢
  rw [h0, h1, h2]
  exact h
theorem rideM_rows {σ u : St} {t c : Nat} (h0 : u.1 90 = σ.1 90) (h1 : u.1 91 = σ.1 91) (h2 : u.1 92 = σ.1 92) (h3 : u.1 93 = σ.1 93) (h4 : u.1 94 = σ.1 94) (h5 : u.1 95 = σ.1 95) : rideM u t c = rideM σ t c ∧ lenM u t = lenM σ t := by
  have e : ∀ k, lenRow u t k = lenRow σ t k := fun k => by unfold lenRow; rw [h1]
  have e1 := lenM_of (σ := σ) (u := u) (t := t) (by rw [h0]) (fun k _ => e k)
  exact ⟨rideM_of e1 (limM_of (by rw [h0]) (fun k _ => e k) (fun k _ => by rw [h2])) ⟨by rw [h3], by rw [h4], by rw [h5]⟩, e1⟩
/-- scratch may change -/
theorem JJ.scr {σ u : St} {n ty R D : Nat} (h : JJ σ n ty R D) (f : EqS σ u) : JJ u n ty R D := by
  have r : ∀ a, a ≠ 4 → (a < 69 ∨ 72 < a) → a ≠ 89 → a ≠ 109 → u.1 a = σ.1 a := fun a h1 h2 h3 h4 => f.row ⟨h1, h2, h3, h4⟩
  have hb := h.ltM
  have hn30 : n ≤ 30 := h.LB.2.1
  obtain ⟨-, hc, ⟨hT, hC⟩, hi, hs, ht, hk, hl⟩ := h
  have hrr := fun t c => rideM_rows (σ := σ) (u := u) (t := t) (c := c) (r 90 (by decide) (by decide) (by decide) (by decide)) (r 91 (by decide) (by decide) (by decide) (by decide)) (r 92 (by decide) (by decide) (by decide) (by decide)) (r 93 (by decide) (by decide) (by decide) (by decide)) (r 94 (by decide) (by decide) (by decide) (by decide)) (r 95 (by decide) (by decide) (by decide) (by decide))
  refine ⟨f.2, hc.of (r 0 (by decide) (by decide) (by decide) (by decide)) (by rw [r 5 (by decide) (by decide) (by decide) (by decide)]) (r 67 (by decide) (by decide) (by decide) (by decide)) (fun k h1 h2 => f.k ⟨h1, h2⟩), ⟨hT.of (r 90 (by decide) (by decide) (by decide) (by decide)) (r 91 (by decide) (by decide) (by decide) (by decide)) (r 92 (by decide) (by decide) (by decide) (by decide)), hC.of (r 93 (by decide) (by decide) (by decide) (by decide)) (r 94 (by decide) (by decide) (by decide) (by decide)) (r 95 (by decide) (by decide) (by decide) (by decide))⟩, hi.of (r 3 (by decide) (by decide) (by decide) (by decide)) (r 96 (by decide) (by decide) (by decide) (by decide)) (r 97 (by decide) (by decide) (by decide) (by decide)) (fun l h1 => r _ (by omega) (by omega) (by omega) (by omega)), fun q hq => by rw [r 68 (by decide) (by decide) (by decide) (by decide), r 108 (by decide) (by decide) (by decide) (by decide)]; exact hs q hq, fun t h1 => ?_, fun c h1 => ?_, fun l h1 => ?_⟩
  · exact (ht t h1).tr (r _ (by omega) (by omega) (by omega) (by omega)) (r _ (by omega) (by omega) (by omega) (by omega)) (r _ (by omega) (by omega) (by omega) (by omega)) (r 90 (by decide) (by decide) (by decide) (by decide)) (r 91 (by decide) (by decide) (by decide) (by decide)) (r 92 (by decide) (by decide) (by decide) (by decide)) (r 102 (by decide) (by decide) (by decide) (by decide))
  · have := hk c h1
    unfold JK at this ⊢
    rw [r (85 + c) (by omega) (by omega) (by omega) (by omega), r 93 (by decide) (by decide) (by decide) (by decide), r 94 (by decide) (by decide) (by decide) (by decide), r 95 (by decide) (by decide) (by decide) (by decide)]
    exact this
  · have hm := (hl l h1).2.1
    unfold MR at hm
    exact (hl l h1).tr (fun a h2 h3 => r a (by omega) (by omega) (by omega) (by omega)) (r _ (by omega) (by omega) (by omega) (by omega)) (r _ (by omega) (by omega) (by omega) (by omega)) (fun h2 => by rw [r _ (by omega) (by omega) (by omega) (by omega)]) (by rw [f.k (k := 1) (by decide)]; exact Int.le_refl _) (by rw [f.k (k := 5) (by decide)]; exact Int.le_refl _) (hrr _ _).1 (hrr _ 0).2
