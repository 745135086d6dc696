/-! ===== a lap driven: the invariant is kept ===== -/
theorem adB_eq {n : Nat} {gh : Int} {d : Nat → Int} (h5 : gh = -1 ∨ ((0 ≤ gh ∧ gh < (n : Int)) ∧ d gh.toNat ≤ 5)) : (if (0 ≤ gh ∧ gh < (n : Int)) ∧ d gh.toNat < 5 then gh else -1) = bsM d gh := by
  unfold bsM
  rcases h5 with e | ⟨e1, e2⟩
  · subst e
    rw [if_neg (by omega), if_pos (Or.inl rfl)]
  · by_cases q : d gh.toNat = 5
    · rw [if_neg (by omega), if_pos (Or.inr q)]
    · rw [if_pos ⟨e1, by omega⟩, if_neg (by omega)]
/-- what is read of a state behind both drives -/
def DrP (σ : St) (n : Nat) (dr tr ca gh rd bs T tm : Int) (u : St) : Prop :=
  (∀ q, q ≠ 4 → q ≠ 0 → q ≠ 5 → q ≠ 89 → q ≠ 109 → q ≠ 73 + 3 * tr.toNat → q ≠ 7 + 2 * n → q ≠ 7 + 2 * n + 1 → (q < 97 ∨ 107 ≤ q ∨ q = 100) → (q < 69 ∨ 72 < q) → u.1 q = σ.1 q) ∧
  (∀ k, u.1 0 k = if k = 5 then 0 else σ.1 0 k) ∧ u.1 5 1 = (n : Int) + 1 ∧
  (∀ k, k ≠ 0 → (k < 28 ∨ 31 < k) → u.1 89 k = if k = 11 then (n : Int) + 1 else if k = 9 then 0 else σ.1 89 k) ∧
  (∀ k, u.1 (73 + 3 * tr.toNat) k = if k = 4 then 1 else σ.1 (73 + 3 * tr.toNat) k) ∧
  (∀ k, u.1 97 k = if 60 * n ≤ k ∧ k < 60 * n + T.toNat then σ.1 96 (k - 60 * n) else σ.1 97 k) ∧
  (∀ k, u.1 98 k = if k = n then T else σ.1 98 k) ∧ (∀ k, u.1 99 k = if k = n then tm else σ.1 99 k) ∧ (∀ k, u.1 101 k = if k = n then dr else σ.1 101 k) ∧ (∀ k, u.1 102 k = if k = n then tr else σ.1 102 k) ∧ (∀ k, u.1 103 k = if k = n then ca else σ.1 103 k) ∧
  (∀ k, u.1 104 k = if k = n then gh else σ.1 104 k) ∧ (∀ k, u.1 105 k = if k = n then rd else σ.1 105 k) ∧ (∀ k, u.1 106 k = if k = n then bs else σ.1 106 k) ∧
  (∀ k, u.1 (7 + 2 * n + 1) k = if k < T.toNat then σ.1 3 k else σ.1 (7 + 2 * n + 1) k) ∧
  (u.1 (7 + 2 * n) 1 = T ∧ u.1 (7 + 2 * n) 2 = tm ∧ u.1 (7 + 2 * n) 3 = dr ∧ u.1 (7 + 2 * n) 4 = tr ∧ u.1 (7 + 2 * n) 5 = ca ∧ u.1 (7 + 2 * n) 6 = gh ∧ u.1 (7 + 2 * n) 7 = rd ∧ u.1 (7 + 2 * n) 8 = σ.1 (7 + 2 * n) 8 ∧ u.1 (7 + 2 * n) 9 = 1 ∧ u.1 (7 + 2 * n) 10 = bs) ∧
  u.1 (7 + 2 * n) 11 = (if 0 ≤ bs then σ.1 (7 + 2 * bs.toNat) 11 + 1 else 0) ∧
  u.1 (7 + 2 * n) 12 = (if 0 ≤ bs then unlF (σ.1 3) (σ.1 (7 + 2 * bs.toNat + 1)) (σ.1 (7 + 2 * bs.toNat) 1) T.toNat else T)
theorem JJ.p_drive {σ u : St} {n ty R D : Nat} {dr tr ca gh rd : Int} (h : JJ σ n ty R D) (hU : JU σ n) (hn : n < 30) (hdr : 0 ≤ dr ∧ dr < 6) (htr : 0 ≤ tr ∧ tr < σ.1 89 1) (hca : 0 ≤ ca ∧ ca < σ.1 89 5) (hg : ghM σ gh tr) (hcan : canM σ tr.toNat ca.toNat ty) (hG : RG u)
    (hd : DrP σ n dr tr ca gh rd (bsM (dpR σ) gh) (rideM σ tr.toNat ca.toNat (σ.1 96) ty).2.2.1 (tmM σ tr.toNat (rideM σ tr.toNat ca.toNat (σ.1 96) ty)) u) : JJ u (n + 1) 0 R D ∧ JU u (n + 1) := by
  have hlm := h.ltM
  have hPM := h.PM
  have hMD := h.MD
  have hc := h.2.1
  unfold JC at hc
  obtain ⟨hRG, hC, ⟨hTM, hCM⟩, hI, hS, hT, hK, hL⟩ := h
  obtain ⟨i1, i2, i3, i4⟩ := hI
  obtain ⟨i0, f1, f2, f3, f4, f5⟩ := rfF_first ty (show (rfF _ _ _ _ _ _ ty).2.2.2 = true from hcan.2)
  have hT0 : (rideM σ tr.toNat ca.toNat (σ.1 96) ty).2.2.1 = (i0 : Int) := f3
  have htm := tm_b hTM hCM (t := tr.toNat) (c := ca.toNat) (inp := σ.1 96) (i := ty) (by omega) (by omega) (by omega) (hPM _ (by omega) hcan.1) hcan.2
  obtain ⟨tm, etm⟩ : ∃ tm, tm = tmM σ tr.toNat (rideM σ tr.toNat ca.toNat (σ.1 96) ty) := ⟨_, rfl⟩
  rw [← etm] at hd htm
  rw [hT0] at hd
  obtain ⟨bs, ebs⟩ : ∃ bs, bs = bsM (dpR σ) gh := ⟨_, rfl⟩
  rw [← ebs] at hd
  have hgh : -1 ≤ gh ∧ gh < (n : Int) ∧ (0 ≤ gh → σ.1 107 gh.toNat = 0) := by
    unfold ghM at hg
    rcases hg with e | ⟨e1, e2, e3⟩
    · exact ⟨by omega, by omega, fun z => by omega⟩
    · exact ⟨by omega, by omega, fun _ => e3⟩
  have hbs : bs = -1 ∨ (bs = gh ∧ 0 ≤ gh ∧ 0 ≤ dpR σ gh.toNat ∧ dpR σ gh.toNat ≤ 4) := by
    rw [ebs]
    unfold bsM
    by_cases z : gh = -1 ∨ dpR σ gh.toNat = 5
    · rw [if_pos z]; exact Or.inl rfl
    · rw [if_neg z]
      have := (hMD gh.toNat (by omega)).1
      exact Or.inr ⟨rfl, by omega, this.1, by omega⟩
  obtain ⟨d0, d1, d2, d3, d4, d5, d6, d7, d8, d9, d10, d11, d12, d13, d14, d15, d16, d17⟩ := hd
  rw [Int.toNat_natCast] at d5 d14 d17
  have htn : tr.toNat < 4 := by omega
  have key : ∀ q, q ≠ 4 → q ≠ 0 → q ≠ 5 → q ≠ 89 → q ≠ 109 → q ≠ 73 + 3 * tr.toNat → q ≠ 7 + 2 * n → q ≠ 7 + 2 * n + 1 → (q < 97 ∨ 107 ≤ q ∨ q = 100) → (q < 69 ∨ 72 < q) → u.1 q = σ.1 q := d0
  have r90 : u.1 90 = σ.1 90 := key 90 (by decide) (by decide) (by decide) (by decide) (by decide) (by omega) (by omega) (by omega) (by omega) (by omega)
  have r91 : u.1 91 = σ.1 91 := key 91 (by decide) (by decide) (by decide) (by decide) (by decide) (by omega) (by omega) (by omega) (by omega) (by omega)
  have r92 : u.1 92 = σ.1 92 := key 92 (by decide) (by decide) (by decide) (by decide) (by decide) (by omega) (by omega) (by omega) (by omega) (by omega)
  have r93 : u.1 93 = σ.1 93 := key 93 (by decide) (by decide) (by decide) (by decide) (by decide) (by omega) (by omega) (by omega) (by omega) (by omega)
  have r94 : u.1 94 = σ.1 94 := key 94 (by decide) (by decide) (by decide) (by decide) (by decide) (by omega) (by omega) (by omega) (by omega) (by omega)
  have r95 : u.1 95 = σ.1 95 := key 95 (by decide) (by decide) (by decide) (by decide) (by decide) (by omega) (by omega) (by omega) (by omega) (by omega)
  have r96 : u.1 96 = σ.1 96 := key 96 (by decide) (by decide) (by decide) (by decide) (by decide) (by omega) (by omega) (by omega) (by omega) (by omega)
  have r3 : u.1 3 = σ.1 3 := key 3 (by decide) (by decide) (by decide) (by decide) (by decide) (by omega) (by omega) (by omega) (by omega) (by omega)
  have r67 : u.1 67 = σ.1 67 := key 67 (by decide) (by decide) (by decide) (by decide) (by decide) (by omega) (by omega) (by omega) (by omega) (by omega)
  have r68 : u.1 68 = σ.1 68 := key 68 (by decide) (by decide) (by decide) (by decide) (by decide) (by omega) (by omega) (by omega) (by omega) (by omega)
  have r100 : u.1 100 = σ.1 100 := key 100 (by decide) (by decide) (by decide) (by decide) (by decide) (by omega) (by omega) (by omega) (by omega) (by omega)
  have r107 : u.1 107 = σ.1 107 := key 107 (by decide) (by decide) (by decide) (by decide) (by decide) (by omega) (by omega) (by omega) (by omega) (by omega)
  have r108 : u.1 108 = σ.1 108 := key 108 (by decide) (by decide) (by decide) (by decide) (by decide) (by omega) (by omega) (by omega) (by omega) (by omega)
  have rl : ∀ l, l < 30 → l ≠ n → u.1 (7 + 2 * l) = σ.1 (7 + 2 * l) := fun l h1 h2 => key _ (by omega) (by omega) (by omega) (by omega) (by omega) (by omega) (by omega) (by omega) (by omega) (by omega)
  have ri : ∀ l, l < 30 → l ≠ n → u.1 (7 + 2 * l + 1) = σ.1 (7 + 2 * l + 1) := fun l h1 h2 => key _ (by omega) (by omega) (by omega) (by omega) (by omega) (by omega) (by omega) (by omega) (by omega) (by omega)
  have rr : ∀ t c, rideM u t c = rideM σ t c ∧ lenM u t = lenM σ t := fun t c => rideM_rows r90 r91 r92 r93 r94 r95
  have u89 : u.1 89 1 = σ.1 89 1 ∧ u.1 89 5 = σ.1 89 5 := ⟨by rw [d3 1 (by decide) (by decide)]; rfl, by rw [d3 5 (by decide) (by decide)]; rfl⟩
  have inl : ∀ l, l < n → ∀ k, k < 60 → inM u l k = inM σ l k := fun l h1 k h2 => by
    unfold inM
    rw [d5, if_neg (by omega)]
  have inn : ∀ k, k < i0 → inM u n k = σ.1 96 k := fun k hk => by
    unfold inM
    rw [d5, if_pos (by omega), show 60 * n + k - 60 * n = k by omega]
  have prt : ∀ l, l < n → prtM u l = prtM σ l := fun l h1 => by
    have m := (hL l h1).2.1
    unfold MR at m
    have w6 : u.1 106 l = σ.1 106 l := by rw [d13, if_neg (by omega)]
    have w8 : u.1 98 l = σ.1 98 l := by rw [d6, if_neg (by omega)]
    unfold prtM
    rw [w6, w8]
    by_cases q : σ.1 106 l = -1
    · rw [if_pos q, if_pos q]
    · have wb : u.1 98 (σ.1 106 l).toNat = σ.1 98 (σ.1 106 l).toNat := by rw [d6, if_neg (by omega)]
      rw [if_neg q, if_neg q, wb]
      have mb := (hL (σ.1 106 l).toNat (by omega)).2.1
      unfold MR at mb
      exact unlF_congr (fun k hk => inl l h1 k (by omega)) (fun k hk => inl _ (by omega) k (by omega))
  refine ⟨⟨hG, ?_, ⟨hTM.of r90 r91 r92, hCM.of r93 r94 r95⟩, ⟨fun i hi => by rw [r3, r96]; exact i1 i hi, fun i hi => absurd hi (by omega), fun i hi => ?_, fun l hl i hi => ?_⟩, fun q hq => by rw [r68, r108]; exact hS q hq, fun t ht => ?_, fun c hc4 => ?_, fun l hl => ?_⟩, fun l h1 h2 => ?_⟩
  · unfold JC
    rw [d1, d1, d1, d2, r67, d3 1 (by decide) (by decide), d3 5 (by decide) (by decide), d3 9 (by decide) (by decide), d3 11 (by decide) (by decide), d3 23 (by decide) (by decide), d3 26 (by decide) (by decide), d3 24 (by decide) (by decide)]
    simp
    omega
  · rw [d5]
    split
    · exact (i1 _ (by omega)).2
    · exact i3 i hi
  · by_cases e : l = n
    · subst e
      rw [d14]
      split
      · exact (i1 i hi).1
      · exact i4 l hl i hi
    · rw [ri l hl e]; exact i4 l hl i hi
  · obtain ⟨t1, t2, t3, t4⟩ := hT t ht
    have el : lenRow u t = lenRow σ t := by unfold lenRow; rw [r91]
    have eln : lenM u t = lenM σ t := (rr t 0).2
    have x1 : u.1 (73 + 3 * t + 1) = σ.1 (73 + 3 * t + 1) := key _ (by omega) (by omega) (by omega) (by omega) (by omega) (by omega) (by omega) (by omega) (by omega) (by omega)
    have x2 : u.1 (73 + 3 * t + 2) = σ.1 (73 + 3 * t + 2) := key _ (by omega) (by omega) (by omega) (by omega) (by omega) (by omega) (by omega) (by omega) (by omega) (by omega)
    have dv : drvM u (t : Int) (n + 1) = if tr = (t : Int) then 1 else drvM σ (t : Int) n := by
      have e2 := drvM_pt (σ := σ) (u := u) (a := (t : Int)) n (fun l hl => by rw [d9, if_neg (by omega)])
      rw [drvM, d9, if_pos rfl, e2]
    unfold JT
    rw [eln, el, x1, x2, r90, r92, dv]
    by_cases e : t = tr.toNat
    · rw [if_pos (by omega), e, d4, d4, d4]
      rw [e] at t1 t2 t3
      exact ⟨by rw [if_neg (by decide)]; exact t1, by rw [if_neg (by decide)]; exact t2, t3, if_pos rfl⟩
    · rw [if_neg (by omega), key (73 + 3 * t) (by omega) (by omega) (by omega) (by omega) (by omega) (by omega) (by omega) (by omega) (by omega) (by omega)]
      exact ⟨t1, t2, t3, t4⟩
  · have hk := hK c hc4
    unfold JK at hk ⊢
    rw [r93, r94, r95, key (85 + c) (by omega) (by omega) (by omega) (by omega) (by omega) (by omega) (by omega) (by omega) (by omega) (by omega)]
    exact hk
  · by_cases e : l = n
    · subst e
      have hj := hU l (Nat.le_refl l) hn
      obtain ⟨y1, y2, y3, y4, y5, y6, y7, y8, y9, y10⟩ := d15
      refine ⟨?_, ?_, ?_, ?_, ?_, ?_⟩
      · unfold JE
        rw [y1, y2, y3, y4, y5, y6, y7, y8, y9, y10, d6, d7, d8, d9, d10, d11, d12, d13, r100, r107, if_pos rfl, if_pos rfl, if_pos rfl, if_pos rfl, if_pos rfl, if_pos rfl, if_pos rfl, if_pos rfl]
        refine ⟨rfl, rfl, rfl, rfl, rfl, rfl, rfl, hj.1, by omega, rfl, ?_⟩
        rw [d17]
        unfold prtM
        rw [d13, if_pos rfl, d6, if_pos rfl, Int.toNat_natCast]
        by_cases q : bs = -1
        · rw [if_neg (by omega), if_pos q]
        · rw [if_pos (by omega), if_neg q, d6, if_neg (by omega)]
          have hjb := hL bs.toNat (by omega)
          have eb := hjb.1
          have mb := hjb.2.1
          unfold JE at eb
          unfold MR at mb
          rw [eb.1]
          refine unlF_congr (fun k hk => ?_) (fun k hk => ?_)
          · rw [inn k hk]; exact i2 k (by omega)
          · rw [hjb.2.2.2.2.1 k (by omega), inl _ (by omega) k (by omega)]
      · unfold MR
        rw [d6, d7, d11, d13, r100, r107, if_pos rfl, if_pos rfl, if_pos rfl, if_pos rfl]
        refine ⟨by omega, htm, hj.2.1, by omega, by omega, Or.inl hj.2.2⟩
      · unfold JB
        rw [d6, d8, d9, d10, if_pos rfl, if_pos rfl, if_pos rfl, if_pos rfl, u89.1, u89.2]
        omega
      · unfold JD
        rw [d16, d13, if_pos rfl, r107]
        rcases hbs with q | ⟨q1, q2, q3, q4⟩
        · rw [if_neg (by omega)]
          exact ⟨by omega, Or.inl ⟨q, rfl⟩⟩
        · rw [if_pos (by omega), rl _ (by omega) (by omega)]
          unfold dpR at q3 q4
          rw [q1]
          exact ⟨by omega, Or.inr ⟨q2, rfl, hgh.2.2 q2⟩⟩
      · intro k hk
        rw [d6, if_pos rfl, Int.toNat_natCast] at hk
        rw [d14, if_pos hk, inn k hk]
        exact i2 k (by omega)
      · rw [d9, d10, d6, d7, if_pos rfl, if_pos rfl, if_pos rfl, if_pos rfl]
        refine JR.tr2 (σ := σ) (inp := σ.1 96) ⟨fun i hi => f5 i (by omega), ?_, ?_⟩ (rr _ _).1 (rr _ 0).2 (fun j hj2 => inn j (by omega))
        · rw [Int.toNat_natCast]
          show (rfF _ _ _ _ _ _ i0).2.2.2 = true
          rw [f4]; exact hcan.2
        · rw [Int.toNat_natCast, etm]
          show tmM σ tr.toNat (rfF _ _ _ _ _ _ ty) = tmM σ tr.toNat (rfF _ _ _ _ _ _ i0)
          rw [f4]
    · have hl2 : l < n := by omega
      have m := (hL l hl2).2.1
      unfold MR at m
      refine (hL l hl2).pt2 (fun b h1 h2 => ?_) (prt l hl2) (rl l (by omega) e) (ri l (by omega) e) (inl l hl2) (fun h1 h2 => ⟨by rw [rl _ (by omega) (by omega)], by rw [r107]; exact h2⟩) (by rw [u89.1]; exact Int.le_refl _) (by rw [u89.2]; exact Int.le_refl _) (rr _ _).1 (rr _ 0).2
      have : b = 98 ∨ b = 99 ∨ b = 100 ∨ b = 101 ∨ b = 102 ∨ b = 103 ∨ b = 104 ∨ b = 105 ∨ b = 106 ∨ b = 107 := by omega
      rcases this with rfl | rfl | rfl | rfl | rfl | rfl | rfl | rfl | rfl | rfl
      · rw [d6, if_neg e]
      · rw [d7, if_neg e]
      · rw [r100]
      · rw [d8, if_neg e]
      · rw [d9, if_neg e]
      · rw [d10, if_neg e]
      · rw [d11, if_neg e]
      · rw [d12, if_neg e]
      · rw [d13, if_neg e]
      · rw [r107]
  · have := hU l (by omega) h2
    rw [rl l h2 (by omega), r100, r107]
    exact this
