/-! ===== equal figures ===== -/
theorem sum6 {f : Nat → Int} : sumF f 6 = f 0 + f 1 + f 2 + f 3 + f 4 + f 5 := by
  show 0 + f 0 + f 1 + f 2 + f 3 + f 4 + f 5 = _
  omega
theorem plS_5 {σ : St} {n d : Nat} {r : Int} (hd : d < 6) : plS σ n r (d : Int) 6 ≤ 5 := by
  have h0 : ahI (cntM σ) n (lapM σ n r (d : Int)) (lapM σ n r (d : Int)) = 0 := ahI_n (by unfold ahd; omega)
  have hb : ∀ o : Nat, ahI (cntM σ) n (lapM σ n r (o : Int)) (lapM σ n r (d : Int)) ≤ 1 := fun o => ahI_b.2
  have b0 := hb 0
  have b1 := hb 1
  have b2 := hb 2
  have b3 := hb 3
  have b4 := hb 4
  have b5 := hb 5
  unfold plS
  rw [sum6]
  have : d = 0 ∨ d = 1 ∨ d = 2 ∨ d = 3 ∨ d = 4 ∨ d = 5 := by omega
  rcases this with rfl | rfl | rfl | rfl | rfl | rfl <;> omega
theorem wth_pt {p : Int} (h0 : 0 ≤ p) (h5 : p ≤ 5) : wthM (p + 1) = ptF p := by
  have : p = 0 ∨ p = 1 ∨ p = 2 ∨ p = 3 ∨ p = 4 ∨ p = 5 := by omega
  rcases this with rfl | rfl | rfl | rfl | rfl | rfl <;> decide
theorem JJ.sc {σ : St} {n ty R D r d : Nat} (h : JJ σ n ty R D) (hd : d < 6) : scF σ n r d = scM σ n (d : Int) r := by
  have hb := plS_b (σ := σ) (n := n) (r := (r : Int)) (d := (d : Int)) 6
  have h5 := plS_5 (σ := σ) (n := n) (r := (r : Int)) hd
  unfold scF scM plcM
  rw [h.lap, h.pl]
  split
  · rfl
  · rw [wth_pt hb.1 h5]
theorem JJ.wn {σ : St} {n ty R D r d : Nat} (h : JJ σ n ty R D) : wnF σ n r d = wnM σ n (d : Int) r := by
  have hb := plS_b (σ := σ) (n := n) (r := (r : Int)) (d := (d : Int)) 6
  unfold wnF wnM plcM
  rw [h.lap, h.pl]
  by_cases q : lapM σ n (r : Int) (d : Int) = -1
  · rw [if_pos q, if_neg (fun z => z.1 q), if_neg (by decide)]
  · rw [if_neg q]
    by_cases q2 : plS σ n (r : Int) (d : Int) 6 = 0
    · rw [if_pos ⟨q, q2⟩, if_pos (by omega)]
    · rw [if_neg (fun z => q2 z.2), if_neg (by omega)]
theorem amG_rel {a b : Nat → Int} {R : Nat} {B1 B2 : Int} (h1 : 10 < B1) (h2 : 10 < B2) (h : ∀ k, k < R → (a k = b k ∧ a k ≤ 10) ∨ (a k = B1 ∧ b k = B2)) : ∀ m, m ≤ R → amG a m = amG b m := by
  intro m
  induction m with
  | zero => intro _; rfl
  | succ m ih =>
    intro hm
    have e := ih (by omega)
    have hq : amG b m < R := by
      cases m with
      | zero => show 0 < R; omega
      | succ m => have := amG_lt (a := b) m; omega
    have x := h m (by omega)
    have y := h (amG b m) hq
    rw [amG, amG, e]
    by_cases q : a m < a (amG b m)
    · rw [if_pos q, if_pos (by omega)]
    · rw [if_neg q, if_neg (by omega)]
theorem drF_rel {a : Nat → Int} {R : Nat} {B1 B2 s : Int} (h1 : 10 < B1) (h2 : 10 < B2) (ha : ∀ k, k < R → 0 ≤ a k ∧ a k ≤ 10) : ∀ j, j ≤ R → (∀ k, k < R → ((drF B1 R a s j).1 k = (drF B2 R a s j).1 k ∧ (drF B1 R a s j).1 k ≤ 10) ∨ ((drF B1 R a s j).1 k = B1 ∧ (drF B2 R a s j).1 k = B2)) ∧ (drF B1 R a s j).2 = (drF B2 R a s j).2 := by
  intro j
  induction j with
  | zero => intro _; exact ⟨fun k hk => Or.inl ⟨rfl, (ha k hk).2⟩, rfl⟩
  | succ j ih =>
    intro hj
    obtain ⟨g1, g2⟩ := ih (by omega)
    have e := amG_rel h1 h2 g1 R (Nat.le_refl R)
    have hl := drF_low (s := s) ha h1 (j := j) (by omega)
    have hq : amG (drF B1 R a s j).1 R < R := by
      obtain ⟨m, rfl⟩ : ∃ m, R = m + 1 := ⟨R - 1, by omega⟩
      exact amG_lt m
    have hv := g1 _ hq
    refine ⟨fun k hk => ?_, ?_⟩
    · show (ur _ _ _ k = ur _ _ _ k ∧ ur _ _ _ k ≤ 10) ∨ (ur _ _ _ k = _ ∧ ur _ _ _ k = _)
      rw [← e]
      unfold ur
      by_cases q : k = amG (drF B1 R a s j).1 R
      · rw [if_pos q, if_pos q]; exact Or.inr ⟨rfl, rfl⟩
      · rw [if_neg q, if_neg q]; exact g1 k hk
    · show _ - _ = _ - _
      rw [← e, g2]
      omega
theorem sumF_ext {f h : Nat → Int} {m : Nat} (e : f = h) : sumF f m = sumF h m := by rw [e]
theorem drF_congr {B : Int} {R : Nat} {a b : Nat → Int} {s : Int} (h : ∀ k, k < R → a k = b k) : ∀ j, j ≤ R → (∀ k, k < R → (drF B R a s j).1 k = (drF B R b s j).1 k) ∧ (drF B R a s j).2 = (drF B R b s j).2 := by
  intro j
  induction j with
  | zero => intro _; exact ⟨fun k hk => h k hk, rfl⟩
  | succ j ih =>
    intro hj
    obtain ⟨g1, g2⟩ := ih (by omega)
    have e : amG (drF B R a s j).1 R = amG (drF B R b s j).1 R := amG_congr R g1
    have hq : amG (drF B R b s j).1 R < R := by
      obtain ⟨m, rfl⟩ : ∃ m, R = m + 1 := ⟨R - 1, by omega⟩
      exact amG_lt m
    refine ⟨fun k hk => ?_, ?_⟩
    · show ur _ _ _ k = ur _ _ _ k
      rw [e]
      unfold ur
      split
      · rfl
      · exact g1 k hk
    · show _ - _ = _ - _
      rw [e, g2, g1 _ hq]
theorem JJ.pts {σ : St} {n ty R D d : Nat} (h : JJ σ n ty R D) (hd : d < 6) : ptsF σ n R D d = ptsM σ n R D (d : Int) := by
  have e : ∀ k, k < R → scF σ n k d = scM σ n (d : Int) k := fun k _ => h.sc hd
  have es : sumF (fun r => scF σ n r d) R = sumF (scM σ n (d : Int)) R := sumF_congr R e
  have hm : (if D ≤ R then D else R) ≤ R := by split <;> omega
  unfold ptsF drC ptsM drM
  rw [es, (drF_congr e _ hm).2]
  exact (drF_rel (by decide) (by decide) (fun k _ => scM_b) _ hm).2
theorem JJ.won {σ : St} {n ty R D d : Nat} (h : JJ σ n ty R D) : wonF σ n R d = wonM σ n R (d : Int) := by
  unfold wonF wonM
  exact sumF_congr R (fun r _ => h.wn)
theorem JJ.db {σ : St} {n ty R D : Nat} {p : Int} (h : JJ σ n ty R D) : dbF (fun d => ptsF σ n R D d) (fun d => wonF σ n R d) p 6 = dbF (fun o => ptsM σ n R D ((o : Nat) : Int)) (fun o => wonM σ n R ((o : Nat) : Int)) p 6 :=
  dbF_congr (fun d hd => ⟨h.pts hd, h.won⟩) 6 (Nat.le_refl 6)
theorem JJ.least {σ : St} {n ty R D : Nat} {a : Int} (h : JJ σ n ty R D) : bestF (fun l => decide (¬ σ.1 (7 + 2 * l) 9 = 0 ∧ σ.1 (7 + 2 * l) 4 = a)) (cntC σ) n = bestF (fun l => decide (σ.1 102 l = a ∧ σ.1 107 l = 0)) (cntM σ) n := by
  refine bestF_congr n (fun l hl => ⟨?_, h.cnt l hl⟩)
  have e := (h.2.2.2.2.2.2.2 l hl).1
  have m := (h.2.2.2.2.2.2.2 l hl).2.1
  unfold JE at e
  unfold MR at m
  apply decide_eq_decide.mpr
  omega
/-! resting -/
theorem chS_lt {σ : St} {n : Nat} (h : ∀ l, l < n → -1 ≤ σ.1 106 l ∧ σ.1 106 l < (l : Int)) {l : Nat} (hl : l < n) : ∀ k, -1 ≤ chS σ l k ∧ chS σ l k < (l : Int) := by
  intro k
  induction k with
  | zero => exact h l hl
  | succ k ih =>
    rw [chS]
    by_cases q : chS σ l k = -1
    · rw [if_pos q]; omega
    · rw [if_neg q]
      have := h (chS σ l k).toNat (by omega)
      omega
theorem wkS_ch {σ : St} {n : Nat} {base : Nat → Int} {b : Int} (hb : 0 ≤ b) (he : ∀ l, l < n → base l = σ.1 106 l) (h : ∀ l, l < n → -1 ≤ σ.1 106 l ∧ σ.1 106 l < (l : Int)) {l : Nat} (hl : l < n) (hlb : ¬ (l : Int) = b) : ∀ i, (wkS base n b (l : Int) i = b ∧ ∃ j, j < i ∧ chS σ l j = b) ∨ ((∀ j, j < i → ¬ chS σ l j = b) ∧ wkS base n b (l : Int) i = if i = 0 then (l : Int) else chS σ l (i - 1)) := by
  intro i
  induction i with
  | zero => exact Or.inr ⟨fun j hj => absurd hj (by omega), rfl⟩
  | succ i ih =>
    rcases ih with ⟨a, j, hj, hc⟩ | ⟨a, c⟩
    · exact Or.inl ⟨by rw [wkS, if_neg (fun q => q.2 a)]; exact a, j, by omega, hc⟩
    · have key : wkS base n b (l : Int) (i + 1) = chS σ l i := by
        rw [wkS, c]
        by_cases q : i = 0
        · subst q
          rw [if_pos rfl, if_pos ⟨⟨by omega, by omega⟩, hlb⟩, Int.toNat_natCast, he l hl]
          rfl
        · rw [if_neg q]
          obtain ⟨m, rfl⟩ : ∃ m, i = m + 1 := ⟨i - 1, by omega⟩
          have hm := chS_lt h hl m
          have hm2 := a m (by omega)
          rw [show m + 1 - 1 = m by omega, chS]
          by_cases q2 : chS σ l m = -1
          · rw [if_pos q2, if_neg (by omega)]; exact q2
          · rw [if_neg q2, if_pos ⟨by omega, hm2⟩, he _ (by omega)]
      by_cases q : chS σ l i = b
      · exact Or.inl ⟨key.trans q, i, by omega, q⟩
      · refine Or.inr ⟨fun j hj => ?_, ?_⟩
        · rcases Nat.lt_or_ge j i with z | z
          · exact a j z
          · rw [show j = i by omega]; exact q
        · rw [if_neg (by omega), show i + 1 - 1 = i by omega]; exact key
theorem JJ.rest {σ : St} {n ty R D a l : Nat} (h : JJ σ n ty R D) (hl : l < n) : (if a < l ∧ wkS (bsC σ) n (a : Int) (l : Int) 5 = (a : Int) then (1 : Int) else 0) = rstI σ l (a : Int) := by
  have hb : ∀ l, l < n → -1 ≤ σ.1 106 l ∧ σ.1 106 l < (l : Int) := fun l hl => by
    have m := (h.2.2.2.2.2.2.2 l hl).2.1
    unfold MR at m
    exact m.2.2.2.2.1
  have he : ∀ l, l < n → bsC σ l = σ.1 106 l := fun l hl => by
    have e := (h.2.2.2.2.2.2.2 l hl).1
    unfold JE at e
    exact e.2.2.2.2.2.2.2.2.2.1
  have hd := h.MD l hl
  by_cases q : a < l
  · have w := wkS_ch (b := (a : Int)) (by omega) he hb hl (by omega) 5
    rcases w with ⟨w1, j, hj, hc⟩ | ⟨w1, w2⟩
    · rw [if_pos ⟨q, w1⟩, rstI_y ⟨j, hc⟩]
    · rw [if_neg, rstI_n]
      · rintro ⟨k, hk⟩
        rcases Nat.lt_or_ge k 5 with z | z
        · exact w1 k z hk
        · have e1 := chS_end h.MD hl
          have := chS_stay e1 (k - (dpR σ l).toNat)
          rw [show (dpR σ l).toNat + (k - (dpR σ l).toNat) = k by omega] at this
          omega
      · rintro ⟨-, w3⟩
        rw [w3, if_neg (by decide)] at w2
        exact w1 4 (by omega) w2.symm
  · rw [if_neg (fun z => q z.1), rstI_n]
    rintro ⟨k, hk⟩
    have := chS_lt hb hl k
    omega
theorem JJ.ck {σ : St} {n ty R D : Nat} (h : JJ σ n ty R D) : ∀ i, i ≤ n → ckF σ i = ckM σ i := by
  intro i
  induction i with
  | zero => intro _; rfl
  | succ i ih =>
    intro hi
    have e := (h.2.2.2.2.2.2.2 i (by omega)).1
    have m := (h.2.2.2.2.2.2.2 i (by omega)).2.1
    unfold JE at e
    unfold MR at m
    have e9 : (if σ.1 (7 + 2 * i) 9 = 0 then (0 : Int) else 1) = (if σ.1 107 i = 0 then 1 else 0) := by
      rcases m.2.2.2.2.2 with a | a
      · rw [if_neg (by omega), if_pos a]
      · rw [if_pos (by omega), if_neg (by omega)]
    rw [ckF, ckM, ih (by omega), e9]
    omega
theorem JJ.sumP {σ : St} {n ty R D : Nat} (h : JJ σ n ty R D) : sumF (fun l => σ.1 (7 + 2 * l) 12) n = sumF (prtM σ) n := sumF_congr n (fun l hl => by
  have e := (h.2.2.2.2.2.2.2 l hl).1
  unfold JE at e
  omega)
theorem JJ.sumT {σ : St} {n ty R D : Nat} (h : JJ σ n ty R D) : sumF (fun l => σ.1 (7 + 2 * l) 1) n = sumF (σ.1 98) n := sumF_congr n (fun l hl => by
  have e := (h.2.2.2.2.2.2.2 l hl).1
  unfold JE at e
  omega)
theorem JJ.sumS {σ : St} {n ty R D : Nat} (h : JJ σ n ty R D) : sumF (fun l => if σ.1 (7 + 2 * l) 9 = 0 then (0 : Int) else 1) n = sumF (fun l => if σ.1 107 l = 0 then 1 else 0) n := sumF_congr n (fun l hl => by
  have e := (h.2.2.2.2.2.2.2 l hl).1
  have m := (h.2.2.2.2.2.2.2 l hl).2.1
  unfold JE at e
  unfold MR at m
  rcases m.2.2.2.2.2 with a | a
  · rw [if_neg (by omega), if_pos a]
  · rw [if_pos (by omega), if_neg (by omega)])
theorem JJ.mean {σ : St} {n ty R D : Nat} (h : JJ σ n ty R D) : mtF σ n = mtM σ n := sumF_congr n (fun l hl => by
  have e := (h.2.2.2.2.2.2.2 l hl).1
  have m := (h.2.2.2.2.2.2.2 l hl).2.1
  have c := h.cnt l hl
  unfold JE at e
  unfold MR at m
  rcases m.2.2.2.2.2 with a | a
  · rw [if_neg (by omega), if_pos a]; exact c
  · rw [if_pos (by omega), if_neg (by omega)])
