/-! ===== a lap struck out ===== -/
theorem mv_rows {x : St} {n a : Nat} {b : Int} (ha : a < n) (hb : -1 ≤ b ∧ b < (a : Int)) (hx : ∀ l, l < n → -1 ≤ x.1 (7 + 2 * l) 10 ∧ x.1 (7 + 2 * l) 10 < (l : Int)) : ∀ i, i ≤ n → ∀ l, l < i →
    (mvF x n (a : Int) b i).1 (7 + 2 * l) 10 = (if x.1 (7 + 2 * l) 10 = (a : Int) then b else x.1 (7 + 2 * l) 10) ∧
    (mvF x n (a : Int) b i).1 (7 + 2 * l) 12 = (if x.1 (7 + 2 * l) 10 = (a : Int) then stF x n l b else x.1 (7 + 2 * l) 12) ∧
    (mvF x n (a : Int) b i).1 (7 + 2 * l) 11 = (if 0 ≤ (if x.1 (7 + 2 * l) 10 = (a : Int) then b else x.1 (7 + 2 * l) 10) then (mvF x n (a : Int) b i).1 (7 + 2 * (if x.1 (7 + 2 * l) 10 = (a : Int) then b else x.1 (7 + 2 * l) 10).toNat) 11 + 1 else 0) := by
  intro i
  induction i with
  | zero => intro _ l hl; omega
  | succ i ih =>
    intro hi l hl
    obtain ⟨u, hu⟩ : ∃ u, u = mvF x n (a : Int) b i := ⟨_, rfl⟩
    obtain ⟨v, hv⟩ : ∃ v, v = mvF x n (a : Int) b (i + 1) := ⟨_, rfl⟩
    have hbase : ∀ k, u.1 (7 + 2 * i) k = x.1 (7 + 2 * i) k := fun k => by rw [hu]; exact mvF_base i (Nat.le_refl i) k
    have hxi := hx i (by omega)
    have hvd : v = if u.1 (7 + 2 * i) 10 = (a : Int) then sw (sw (sw u (7 + 2 * i) 10 b) (7 + 2 * i) 12 (stF u n i b)) (7 + 2 * i) 11 (dpF (sw (sw u (7 + 2 * i) 10 b) (7 + 2 * i) 12 (stF u n i b)) n i) else sw u (7 + 2 * i) 11 (dpF u n i) := by rw [hv, hu]; rfl
    have ho : ∀ q, q ≠ 7 + 2 * i → v.1 q = u.1 q := fun q hq => by
      rw [hvd]
      split
      · rw [sw_ne hq, sw_ne hq, sw_ne hq]
      · rw [sw_ne hq]
    have hst : stF u n i b = stF x n i b := by
      have o1 : u.1 (7 + 2 * i + 1) = x.1 (7 + 2 * i + 1) := by funext k; rw [hu]; exact mvF_o (Or.inl (fun l _ => by omega)) i (by omega)
      have o2 : u.1 (7 + 2 * b.toNat + 1) = x.1 (7 + 2 * b.toNat + 1) := by funext k; rw [hu]; exact mvF_o (Or.inl (fun l _ => by omega)) i (by omega)
      have o3 : u.1 (7 + 2 * b.toNat) 1 = x.1 (7 + 2 * b.toNat) 1 := by rw [hu]; exact mvF_o (Or.inr ⟨by decide, by decide, by decide⟩) i (by omega)
      unfold stF
      rw [o1, o2, o3, hbase]
    rw [← hv]
    by_cases e : l = i
    · subst e
      by_cases q : x.1 (7 + 2 * l) 10 = (a : Int)
      · have hvq := hvd
        rw [if_pos (by rw [hbase]; exact q)] at hvq
        have k10 : v.1 (7 + 2 * l) 10 = b := by rw [hvq, rd_k (by decide), rd_k (by decide), rd_s]
        have k12 : v.1 (7 + 2 * l) 12 = stF x n l b := by rw [hvq, rd_k (by decide), rd_s, hst]
        have k11 : v.1 (7 + 2 * l) 11 = if 0 ≤ b ∧ b < n then u.1 (7 + 2 * b.toNat) 11 + 1 else 0 := by rw [hvq, rd_s, dpF_st]
        rw [if_pos q, if_pos q]
        refine ⟨k10, k12, ?_⟩
        rw [k11]
        by_cases h0 : 0 ≤ b
        · rw [if_pos h0, if_pos ⟨h0, by omega⟩, ho _ (by omega)]
        · rw [if_neg h0, if_neg (fun z => h0 z.1)]
      · have hvq := hvd
        rw [if_neg (by rw [hbase]; exact q)] at hvq
        have k10 : v.1 (7 + 2 * l) 10 = x.1 (7 + 2 * l) 10 := by rw [hvq, rd_k (by decide), hbase]
        have k12 : v.1 (7 + 2 * l) 12 = x.1 (7 + 2 * l) 12 := by rw [hvq, rd_k (by decide), hbase]
        have k11 : v.1 (7 + 2 * l) 11 = if 0 ≤ x.1 (7 + 2 * l) 10 ∧ x.1 (7 + 2 * l) 10 < n then u.1 (7 + 2 * (x.1 (7 + 2 * l) 10).toNat) 11 + 1 else 0 := by
          rw [hvq, rd_s]
          unfold dpF
          rw [hbase]
        rw [if_neg q, if_neg q]
        refine ⟨k10, k12, ?_⟩
        rw [k11]
        by_cases h0 : 0 ≤ x.1 (7 + 2 * l) 10
        · rw [if_pos h0, if_pos ⟨h0, by omega⟩, ho _ (by omega)]
        · rw [if_neg h0, if_neg (fun z => h0 z.1)]
    · have hl2 : l < i := by omega
      have q := ih (by omega) l hl2
      rw [← hu] at q
      have hxl := hx l (by omega)
      rw [ho _ (by omega)]
      refine ⟨q.1, q.2.1, ?_⟩
      rw [q.2.2]
      by_cases z : x.1 (7 + 2 * l) 10 = (a : Int)
      · rw [if_pos z]
        by_cases h0 : 0 ≤ b
        · rw [if_pos h0, if_pos h0, ho _ (by omega)]
        · rw [if_neg h0, if_neg h0]
      · rw [if_neg z]
        by_cases h0 : 0 ≤ x.1 (7 + 2 * l) 10
        · rw [if_pos h0, if_pos h0, ho _ (by omega)]
        · rw [if_neg h0, if_neg h0]
theorem unlF_congr {a b a2 b2 : Nat → Int} {t : Int} {T : Nat} (ha : ∀ i, i < T → a i = a2 i) (hb : ∀ i : Nat, (i : Int) < t → b i = b2 i) : unlF a b t T = unlF a2 b2 t T := by
  unfold unlF
  refine sumF_congr T (fun i hi => ?_)
  by_cases q : t ≤ (i : Int)
  · rw [if_pos (Or.inl q), if_pos (Or.inl q)]
  · rw [ha i hi, hb i (by omega)]
def stkP (σ : St) (n a : Nat) : St := mvM (skM (mvF (sw σ (7 + 2 * a) 9 0) n (a : Int) (σ.1 (7 + 2 * a) 10) n) a) (a : Int) (σ.1 106 a) n
def nbF (σ : St) (a l : Nat) : Int := if σ.1 106 l = (a : Int) then σ.1 106 a else σ.1 106 l
theorem JJ.p_strike {σ : St} {n ty R D a : Nat} (h : JJ σ n ty R D) (ha : a < n) (hv : σ.1 107 a = 0) : JJ (stkP σ n a) n ty R D := by
  have hLB := h.LB
  have hn30 := hLB.2.1
  have hlm := h.ltM
  have hja := h.2.2.2.2.2.2.2 a ha
  have hea := hja.1
  have hma := hja.2.1
  have hda := hja.2.2.2.1
  unfold JE at hea
  unfold MR at hma
  unfold JD at hda
  have e10 : σ.1 (7 + 2 * a) 10 = σ.1 106 a := hea.2.2.2.2.2.2.2.2.2.1
  obtain ⟨x, hx⟩ : ∃ x, x = sw σ (7 + 2 * a) 9 0 := ⟨_, rfl⟩
  have xo : ∀ q, q ≠ 7 + 2 * a → x.1 q = σ.1 q := fun q hq => by rw [hx, sw_ne hq]
  have xk : ∀ q k, k ≠ 9 → x.1 q k = σ.1 q k := fun q k hk => by rw [hx, rd_k hk]
  have x9 : x.1 (7 + 2 * a) 9 = 0 := by rw [hx, rd_s]
  have hxR : RG x := by rw [hx]; exact h.1.sw _ _ R32_0
  have hLBx := hLB.stand (v := 0) (j := a) (by omega) (Or.inl rfl)
  rw [← hx] at hLBx
  have hx10 : ∀ l, l < n → x.1 (7 + 2 * l) 10 = σ.1 106 l := fun l hl => by
    have e := (h.2.2.2.2.2.2.2 l hl).1
    unfold JE at e
    rw [xk _ _ (by decide)]
    exact e.2.2.2.2.2.2.2.2.2.1
  have hxb : ∀ l, l < n → -1 ≤ x.1 (7 + 2 * l) 10 ∧ x.1 (7 + 2 * l) 10 < (l : Int) := fun l hl => by
    have m := (h.2.2.2.2.2.2.2 l hl).2.1
    unfold MR at m
    rw [hx10 l hl]
    exact m.2.2.2.2.1
  obtain ⟨w, hw⟩ : ∃ w, w = mvF x n (a : Int) (σ.1 106 a) n := ⟨_, rfl⟩
  have hrow := fun l hl => mv_rows (x := x) (n := n) (a := a) (b := σ.1 106 a) ha hma.2.2.2.2.1 hxb n (Nat.le_refl n) l hl
  rw [← hw] at hrow
  have wR : RG w := by rw [hw]; exact (mvF_b hxR hLBx (h.1 _ _) n (Nat.le_refl n)).1
  have wo : ∀ q k, ((∀ l, l < n → q ≠ 7 + 2 * l) ∨ (k ≠ 10 ∧ k ≠ 11 ∧ k ≠ 12)) → w.1 q k = x.1 q k := fun q k hq => by rw [hw]; exact mvF_o hq n (Nat.le_refl n)
  obtain ⟨u, hu⟩ : ∃ u, u = stkP σ n a := ⟨_, rfl⟩
  have hu2 : u = mvM (skM w a) (a : Int) (σ.1 106 a) n := by rw [hu, hw, hx]; unfold stkP; rw [e10]
  rw [← hu]
  have uR : RG u := by rw [hu2]; exact mvM_RG ((wR.sw _ _ R32_0).sw _ _ ⟨by decide, by decide⟩) (h.1 _ _)
  have uo : ∀ q, q ≠ 106 → q ≠ 107 → q ≠ 89 → u.1 q = w.1 q := fun q h1 h2 h3 => by
    rw [hu2, mvM_n h1]
    unfold skM
    rw [sw_ne h2, sw_ne h3]
  have wr : ∀ q, (q < 7 ∨ 67 ≤ q ∨ q % 2 = 0) → w.1 q = σ.1 q := fun q hq => by
    funext k
    rw [wo q k (Or.inl (fun l hl => by omega)), xo q (by omega)]
  have us : ∀ q, q ≠ 106 → q ≠ 107 → q ≠ 89 → (q < 7 ∨ 67 ≤ q ∨ q % 2 = 0) → u.1 q = σ.1 q := fun q h1 h2 h3 h4 => by rw [uo q h1 h2 h3, wr q h4]
  have u89 : ∀ k, k ≠ 0 → u.1 89 k = σ.1 89 k := fun k hk => by
    rw [hu2, mvM_n (by decide)]
    unfold skM
    rw [rd_n (by decide), rd_k hk, wr 89 (by omega)]
  have u106 : ∀ l, l < n → u.1 106 l = nbF σ a l := fun l hl => by
    rw [hu2, mvM_6]
    unfold skM nbF
    rw [rd_n (by decide), rd_n (by decide), wr 106 (by omega)]
    by_cases q : σ.1 106 l = (a : Int)
    · rw [if_pos ⟨hl, q⟩, if_pos q]
    · rw [if_neg (fun z => q z.2), if_neg q]
  have u107 : ∀ l, u.1 107 l = if l = a then 1 else σ.1 107 l := fun l => by
    rw [hu2, mvM_n (by decide)]
    unfold skM
    rw [sw_get, rd_n (by decide), wr 107 (by omega)]
    simp
  have ul : ∀ l k, l < n → u.1 (7 + 2 * l) k = w.1 (7 + 2 * l) k := fun l k hl => by rw [uo _ (by omega) (by omega) (by omega)]
  have nb : ∀ l, l < n → (if x.1 (7 + 2 * l) 10 = (a : Int) then σ.1 106 a else x.1 (7 + 2 * l) 10) = nbF σ a l := fun l hl => by rw [hx10 l hl]; rfl
  have u10 : ∀ l, l < n → u.1 (7 + 2 * l) 10 = nbF σ a l := fun l hl => by rw [ul l _ hl, (hrow l hl).1, nb l hl]
  have u11 : ∀ l, l < n → u.1 (7 + 2 * l) 11 = if 0 ≤ nbF σ a l then u.1 (7 + 2 * (nbF σ a l).toNat) 11 + 1 else 0 := fun l hl => by
    have hm := (h.2.2.2.2.2.2.2 l hl).2.1
    unfold MR at hm
    rw [ul l _ hl, (hrow l hl).2.2, nb l hl]
    by_cases q : 0 ≤ nbF σ a l
    · rw [if_pos q, if_pos q, ul _ _ (by unfold nbF at q ⊢; split at q <;> split <;> omega)]
    · rw [if_neg q, if_neg q]
  have nbb : ∀ l, l < n → -1 ≤ nbF σ a l ∧ nbF σ a l < (l : Int) ∧ ¬ nbF σ a l = (a : Int) := fun l hl => by
    have hm := (h.2.2.2.2.2.2.2 l hl).2.1
    unfold MR at hm
    unfold nbF
    split <;> omega
  have dle : ∀ m l, l < m → l < n → 0 ≤ u.1 (7 + 2 * l) 11 ∧ u.1 (7 + 2 * l) 11 ≤ σ.1 (7 + 2 * l) 11 := by
    intro m
    induction m with
    | zero => intro l hl; omega
    | succ m ih =>
      intro l hl hln
      have d := (h.2.2.2.2.2.2.2 l hln).2.2.2.1
      unfold JD at d
      have hb := nbb l hln
      rw [u11 l hln]
      by_cases q : 0 ≤ nbF σ a l
      · rw [if_pos q]
        have i1 := ih (nbF σ a l).toNat (by omega) (by omega)
        by_cases z : σ.1 106 l = (a : Int)
        · have e1 : nbF σ a l = σ.1 106 a := by unfold nbF; rw [if_pos z]
          rw [e1] at i1 q ⊢
          have e2 : σ.1 (7 + 2 * (σ.1 106 l).toNat) 11 = σ.1 (7 + 2 * a) 11 := by rw [z, Int.toNat_natCast]
          rcases d.2 with y | y
          · omega
          · rcases hda.2 with t | t
            · omega
            · omega
        · have e1 : nbF σ a l = σ.1 106 l := by unfold nbF; rw [if_neg z]
          rw [e1] at i1 q ⊢
          rcases d.2 with y | y
          · omega
          · omega
      · rw [if_neg q]
        exact ⟨Int.le_refl 0, d.1.1⟩
  have rr : ∀ t c, rideM u t c = rideM σ t c ∧ lenM u t = lenM σ t := fun t c => rideM_rows (us 90 (by decide) (by decide) (by decide) (by omega)) (us 91 (by decide) (by decide) (by decide) (by omega)) (us 92 (by decide) (by decide) (by decide) (by omega)) (us 93 (by decide) (by decide) (by decide) (by omega)) (us 94 (by decide) (by decide) (by decide) (by omega)) (us 95 (by decide) (by decide) (by decide) (by omega))
  have s97 := us 97 (by decide) (by decide) (by decide) (by omega)
  have s98 := us 98 (by decide) (by decide) (by decide) (by omega)
  have s102 := us 102 (by decide) (by decide) (by decide) (by omega)
  have ii : ∀ l, inM u l = inM σ l := fun l => by unfold inM; rw [s97]
  obtain ⟨hRG, hC, ⟨hTM, hCM⟩, hI, hS, hT, hK, hL⟩ := h
  refine ⟨uR, hC.of (us 0 (by decide) (by decide) (by decide) (by omega)) (by rw [us 5 (by decide) (by decide) (by decide) (by omega)]) (us 67 (by decide) (by decide) (by decide) (by omega)) (fun k h1 _ => u89 k h1), ⟨hTM.of (us 90 (by decide) (by decide) (by decide) (by omega)) (us 91 (by decide) (by decide) (by decide) (by omega)) (us 92 (by decide) (by decide) (by decide) (by omega)), hCM.of (us 93 (by decide) (by decide) (by decide) (by omega)) (us 94 (by decide) (by decide) (by decide) (by omega)) (us 95 (by decide) (by decide) (by decide) (by omega))⟩, hI.of (us 3 (by decide) (by decide) (by decide) (by omega)) (us 96 (by decide) (by decide) (by decide) (by omega)) s97 (fun l q => us _ (by omega) (by omega) (by omega) (by omega)), fun q hq => ?_, fun t ht => ?_, fun c hc4 => ?_, fun l hl => ?_⟩
  · rw [us 68 (by decide) (by decide) (by decide) (by omega), us 108 (by decide) (by decide) (by decide) (by omega)]
    exact hS q hq
  · exact (hT t ht).tr (us _ (by omega) (by omega) (by omega) (by omega)) (us _ (by omega) (by omega) (by omega) (by omega)) (us _ (by omega) (by omega) (by omega) (by omega)) (us 90 (by decide) (by decide) (by decide) (by omega)) (us 91 (by decide) (by decide) (by decide) (by omega)) (us 92 (by decide) (by decide) (by decide) (by omega)) s102
  · have hk := hK c hc4
    unfold JK at hk ⊢
    rw [us 93 (by decide) (by decide) (by decide) (by omega), us 94 (by decide) (by decide) (by decide) (by omega), us 95 (by decide) (by decide) (by decide) (by omega), us (85 + c) (by omega) (by omega) (by omega) (by omega)]
    exact hk
  · obtain ⟨e, m, b, d, i, r⟩ := hL l hl
    have hb := nbb l hl
    have k0 : ∀ k, k ≠ 9 → k ≠ 10 → k ≠ 11 → k ≠ 12 → u.1 (7 + 2 * l) k = σ.1 (7 + 2 * l) k := fun k h1 h2 h3 h4 => by
      rw [ul l k hl, wo _ _ (Or.inr ⟨h2, h3, h4⟩), xk _ _ h1]
    have k9 : u.1 (7 + 2 * l) 9 = 1 - u.1 107 l := by
      rw [ul l 9 hl, wo _ _ (Or.inr ⟨by decide, by decide, by decide⟩), u107]
      by_cases q : l = a
      · subst q; rw [x9, if_pos rfl]; rfl
      · rw [if_neg q, xo _ (by omega)]
        unfold JE at e
        exact e.2.2.2.2.2.2.2.2.1
    have k12 : u.1 (7 + 2 * l) 12 = prtM u l := by
      rw [ul l 12 hl, (hrow l hl).2.1, hx10 l hl]
      unfold prtM
      rw [u106 l hl, s98, ii]
      by_cases q : σ.1 106 l = (a : Int)
      · have e1 : nbF σ a l = σ.1 106 a := by unfold nbF; rw [if_pos q]
        rw [if_pos q, e1]
        unfold stF
        rw [xk _ 1 (by decide), xk _ 1 (by decide), xo (7 + 2 * l + 1) (by omega), xo (7 + 2 * (σ.1 106 a).toNat + 1) (by omega)]
        have el : σ.1 (7 + 2 * l) 1 = σ.1 98 l := by unfold JE at e; exact e.1
        rw [el]
        by_cases q2 : σ.1 106 a = -1
        · rw [if_pos q2, if_neg (by omega)]
        · rw [if_neg q2, if_pos (by omega), ii]
          have hj2 := hL (σ.1 106 a).toNat (by omega)
          have e2 := hj2.1
          unfold JE at e2
          rw [e2.1]
          exact unlF_congr (fun k hk => i k hk) (fun k hk => hj2.2.2.2.2.1 k (by omega))
      · have e1 : nbF σ a l = σ.1 106 l := by unfold nbF; rw [if_neg q]
        rw [if_neg q, e1, xk _ 12 (by decide)]
        unfold JE at e
        rw [e.2.2.2.2.2.2.2.2.2.2]
        unfold prtM
        by_cases q2 : σ.1 106 l = -1
        · rw [if_pos q2, if_pos q2]
        · rw [if_neg q2, if_neg q2, ii]
    refine ⟨?_, ?_, ?_, ?_, ?_, ?_⟩
    · unfold JE at e ⊢
      rw [← k12, k9, u10 l hl, ← u106 l hl, k0 1 (by decide) (by decide) (by decide) (by decide), k0 2 (by decide) (by decide) (by decide) (by decide), k0 3 (by decide) (by decide) (by decide) (by decide), k0 4 (by decide) (by decide) (by decide) (by decide), k0 5 (by decide) (by decide) (by decide) (by decide), k0 6 (by decide) (by decide) (by decide) (by decide), k0 7 (by decide) (by decide) (by decide) (by decide), k0 8 (by decide) (by decide) (by decide) (by decide), s98, us 99 (by decide) (by decide) (by decide) (by omega), us 100 (by decide) (by decide) (by decide) (by omega), us 101 (by decide) (by decide) (by decide) (by omega), s102, us 103 (by decide) (by decide) (by decide) (by omega), us 104 (by decide) (by decide) (by decide) (by omega), us 105 (by decide) (by decide) (by decide) (by omega)]
      exact ⟨e.1, e.2.1, e.2.2.1, e.2.2.2.1, e.2.2.2.2.1, e.2.2.2.2.2.1, e.2.2.2.2.2.2.1, e.2.2.2.2.2.2.2.1, rfl, rfl, rfl⟩
    · unfold MR at m ⊢
      rw [s98, us 99 (by decide) (by decide) (by decide) (by omega), us 100 (by decide) (by decide) (by decide) (by omega), us 104 (by decide) (by decide) (by decide) (by omega), u106 l hl, u107]
      refine ⟨m.1, m.2.1, m.2.2.1, m.2.2.2.1, ⟨hb.1, hb.2.1⟩, ?_⟩
      by_cases q : l = a
      · rw [if_pos q]; exact Or.inr rfl
      · rw [if_neg q]; exact m.2.2.2.2.2
    · unfold JB at b ⊢
      rw [s98, us 101 (by decide) (by decide) (by decide) (by omega), s102, us 103 (by decide) (by decide) (by decide) (by omega), u89 1 (by decide), u89 5 (by decide)]
      exact b
    · have dl := dle (l + 1) l (by omega) hl
      unfold JD at d ⊢
      refine ⟨⟨dl.1, by omega⟩, ?_⟩
      rw [u106 l hl, u11 l hl]
      by_cases q : 0 ≤ nbF σ a l
      · refine Or.inr ⟨q, if_pos q, ?_⟩
        rw [u107, if_neg (by omega)]
        by_cases z : σ.1 106 l = (a : Int)
        · have e1 : nbF σ a l = σ.1 106 a := by unfold nbF; rw [if_pos z]
          rw [e1] at q ⊢
          rcases hda.2 with y | y
          · omega
          · exact y.2.2
        · have e1 : nbF σ a l = σ.1 106 l := by unfold nbF; rw [if_neg z]
          rw [e1] at q ⊢
          rcases d.2 with y | y
          · omega
          · exact y.2.2
      · exact Or.inl ⟨by omega, if_neg q⟩
    · intro k hk
      rw [s98] at hk
      rw [us _ (by omega) (by omega) (by omega) (by omega), ii]
      exact i k hk
    · rw [s102, us 103 (by decide) (by decide) (by decide) (by omega), s98, us 99 (by decide) (by decide) (by decide) (by omega), ii]
      exact JR.tr r (rr _ _).1 (rr _ 0).2
