/-! ===== a lap driven ===== -/
/-- rows of laps to come -/
def JU (σ : St) (n : Nat) : Prop := ∀ l, n ≤ l → l < 30 → σ.1 (7 + 2 * l) 8 = σ.1 100 l ∧ (0 ≤ σ.1 100 l ∧ σ.1 100 l ≤ 9999) ∧ σ.1 107 l = 0
theorem rfF_first {len : Int} {lim : Int → Int} {top pull grip : Int} {inp : Nat → Int} : ∀ m : Nat, (rfF len lim top pull grip inp m).2.2.2 = true → ∃ i0, 1 ≤ i0 ∧ i0 ≤ m ∧ (rfF len lim top pull grip inp m).2.2.1 = i0 ∧ rfF len lim top pull grip inp i0 = rfF len lim top pull grip inp m ∧ ∀ i, i < i0 → ¬ (rfF len lim top pull grip inp i).2.2.2 = true := by
  intro m h
  obtain ⟨k, h1, h2, h3⟩ := first_of (P := fun i => (rfF len lim top pull grip inp i).2.2.2 = true) m h
  have e : rfF len lim top pull grip inp m = rfF len lim top pull grip inp k := by
    have q := rfF_over (i := k) h2 (m - k)
    rw [show k + (m - k) = m by omega] at q
    exact q
  refine ⟨k, ?_, h1, ?_, e.symm, h3⟩
  · cases k with
    | zero => simp [rfF] at h2
    | succ k => omega
  · rw [e]
    exact rfF_tick2 k h3
theorem tm_b {σ : St} {t c : Nat} {inp : Nat → Int} {i : Nat} (hT : TM σ) (hC : CM σ) (ht : t < 4) (hc : c < 4) (hi : i ≤ 60) (hl : 0 < lenM σ t) (ho : (rideM σ t c inp i).2.2.2 = true) : 0 ≤ tmM σ t (rideM σ t c inp i) ∧ tmM σ t (rideM σ t c inp i) ≤ 1000000 := by
  have hb := lenM_b hT ht
  obtain ⟨⟨a1, a2⟩, ⟨a3, a4⟩, a5, a6⟩ := hC c hc
  unfold rideM at ho ⊢
  have hr := rfF_b (len := lenM σ t) (lim := limM σ t) (top := σ.1 93 c) (pull := σ.1 94 c) (grip := σ.1 95 c) (inp := inp) a3 a1 a2 i
  have hov := (rfF_ov (lim := limM σ t) (top := σ.1 93 c) (pull := σ.1 94 c) (grip := σ.1 95 c) (inp := inp) hl i).1 ho
  obtain ⟨i0, q1, q2, q3, q4, q5⟩ := rfF_first i ho
  -- the step at which the lap is over came from before the end
  have hp : (rfF (lenM σ t) (limM σ t) (σ.1 93 c) (σ.1 94 c) (σ.1 95 c) inp i).1 - lenM σ t ≤ (rfF (lenM σ t) (limM σ t) (σ.1 93 c) (σ.1 94 c) (σ.1 95 c) inp i).2.1 := by
    rw [← q4]
    obtain ⟨m, rfl⟩ : ∃ m, i0 = m + 1 := ⟨i0 - 1, by omega⟩
    have hm := q5 m (by omega)
    have hlt := (rfF_ov (lim := limM σ t) (top := σ.1 93 c) (pull := σ.1 94 c) (grip := σ.1 95 c) (inp := inp) hl m).2 hm
    have ho2 : (rfF (lenM σ t) (limM σ t) (σ.1 93 c) (σ.1 94 c) (σ.1 95 c) inp (m + 1)).2.2.2 = true := by rw [q4]; exact ho
    rw [rfF, if_neg hm] at ho2 ⊢
    unfold rsF at ho2 ⊢
    split
    · simp only; omega
    · rename_i z
      rw [if_neg z] at ho2
      simp at ho2
  unfold tmM svF
  rw [if_pos hov.2]
  obtain ⟨pl, hpl⟩ : ∃ pl, pl = (rfF (lenM σ t) (limM σ t) (σ.1 93 c) (σ.1 94 c) (σ.1 95 c) inp i).1 - lenM σ t := ⟨_, rfl⟩
  obtain ⟨s, hs⟩ : ∃ s, s = (rfF (lenM σ t) (limM σ t) (σ.1 93 c) (σ.1 94 c) (σ.1 95 c) inp i).2.1 := ⟨_, rfl⟩
  rw [← hpl, ← hs]
  have d1 : 100 * pl / s ≤ 100 := by
    apply Int.ediv_le_of_le_mul (by omega)
    omega
  have d2 : 0 ≤ 100 * pl / s := Int.ediv_nonneg (by omega) (by omega)
  omega
theorem JR.tr2 {σ u : St} {t c : Nat} {inp inp2 : Nat → Int} {k time : Int} (h : JR σ t c inp k time) (hr : rideM u t c = rideM σ t c) (hl : lenM u t = lenM σ t) (hi : ∀ j : Nat, (j : Int) < k → inp2 j = inp j) : JR u t c inp2 k time := by
  have e : ∀ i : Nat, (i : Int) ≤ k → rideM u t c inp2 i = rideM σ t c inp i := fun i hik => by
    rw [hr]
    unfold rideM
    exact rfF_congr i (fun j hj => hi j (by omega))
  obtain ⟨h1, h2, h3⟩ := h
  by_cases hk : 0 ≤ k
  · have ek := e k.toNat (by omega)
    refine ⟨fun i hik => by rw [e i (by omega)]; exact h1 i hik, by rw [ek]; exact h2, ?_⟩
    rw [ek, h3]
    unfold tmM
    rw [hl]
  · exfalso
    have e0 : k.toNat = 0 := by omega
    rw [e0] at h2
    simp [rideM, rfF] at h2
theorem JL.pt2 {σ u : St} {l : Nat} (h : JL σ l) (hM : ∀ b, 98 ≤ b → b ≤ 107 → u.1 b l = σ.1 b l) (hp : prtM u l = prtM σ l) (hE : u.1 (7 + 2 * l) = σ.1 (7 + 2 * l)) (hI : u.1 (7 + 2 * l + 1) = σ.1 (7 + 2 * l + 1)) (h97 : ∀ k, k < 60 → inM u l k = inM σ l k)
    (hb : 0 ≤ σ.1 106 l → σ.1 107 (σ.1 106 l).toNat = 0 → u.1 (7 + 2 * (σ.1 106 l).toNat) 11 = σ.1 (7 + 2 * (σ.1 106 l).toNat) 11 ∧ u.1 107 (σ.1 106 l).toNat = 0) (h1 : σ.1 89 1 ≤ u.1 89 1) (h5 : σ.1 89 5 ≤ u.1 89 5)
    (hr : rideM u (σ.1 102 l).toNat (σ.1 103 l).toNat = rideM σ (σ.1 102 l).toNat (σ.1 103 l).toNat) (hl : lenM u (σ.1 102 l).toNat = lenM σ (σ.1 102 l).toNat) : JL u l := by
  obtain ⟨e, m, b, d, i, r⟩ := h
  have m98 := hM 98 (by decide) (by decide)
  have m99 := hM 99 (by decide) (by decide)
  have m100 := hM 100 (by decide) (by decide)
  have m101 := hM 101 (by decide) (by decide)
  have m102 := hM 102 (by decide) (by decide)
  have m103 := hM 103 (by decide) (by decide)
  have m104 := hM 104 (by decide) (by decide)
  have m105 := hM 105 (by decide) (by decide)
  have m106 := hM 106 (by decide) (by decide)
  have m107 := hM 107 (by decide) (by decide)
  have mm := m
  unfold MR at mm
  refine ⟨?_, ?_, ?_, ?_, ?_, ?_⟩
  · unfold JE at e ⊢
    rw [hp, hE, m98, m99, m100, m101, m102, m103, m104, m105, m106, m107]
    exact e
  · unfold MR at m ⊢
    rw [m98, m99, m100, m104, m106, m107]
    exact m
  · unfold JB at b ⊢
    rw [m98, m101, m102, m103]
    omega
  · unfold JD at d ⊢
    rw [hE, m106]
    refine ⟨d.1, ?_⟩
    rcases d.2 with a | a
    · exact Or.inl a
    · have q := hb a.1 a.2.2
      exact Or.inr ⟨a.1, by rw [q.1]; exact a.2.1, q.2⟩
  · intro k hk
    rw [m98] at hk
    rw [hI, i k hk, h97 k (by omega)]
  · rw [m102, m103, m98, m99]
    exact JR.tr2 r hr hl (fun j hj => h97 j (by omega))
theorem drvM_pt {σ u : St} {a : Int} : ∀ i, (∀ l, l < i → u.1 102 l = σ.1 102 l) → drvM u a i = drvM σ a i := by
  intro i
  induction i with
  | zero => intro _; rfl
  | succ i ih =>
    intro h
    rw [drvM, drvM, ih (fun l hl => h l (by omega)), h i (by omega)]
