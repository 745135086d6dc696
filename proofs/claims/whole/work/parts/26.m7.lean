/-! ===== the season's reckoning ===== -/
theorem sumF_congr {f h : Nat → Int} : ∀ m, (∀ l, l < m → f l = h l) → sumF f m = sumF h m := by
  intro m
  induction m with
  | zero => intro _; rfl
  | succ m ih =>
    intro q
    rw [sumF, sumF, ih (fun l hl => q l (by omega)), q m (by omega)]
noncomputable def plF (σ : St) (n r d : Nat) : Int := sumF (fun o => ahI (cntC σ) n (lapF σ n r o n) (lapF σ n r d n)) 6
noncomputable def scF (σ : St) (n r d : Nat) : Int := if lapF σ n r d n = -1 then 0 else ptF (plF σ n r d)
noncomputable def wnF (σ : St) (n r d : Nat) : Int := if ¬ lapF σ n r d n = -1 ∧ plF σ n r d = 0 then 1 else 0
theorem scF_b {σ : St} {n r d : Nat} : 0 ≤ scF σ n r d ∧ scF σ n r d ≤ 10 := by
  unfold scF ptF
  split
  · omega
  · split
    · exact worthP_b _
    · omega
theorem wnF_b {σ : St} {n r d : Nat} : 0 ≤ wnF σ n r d ∧ wnF σ n r d ≤ 1 := by unfold wnF; split <;> omega
theorem plA_eq {σ u : St} {n r d : Nat} (f : FrS σ u) (hn : n ≤ 30) (hl : ∀ d, d < 6 → u.1 69 d = lapF σ n r d n) (hd : d < 6) : plA u n d = plF σ n r d := by
  unfold plA plF
  exact sumF_congr 6 (fun o ho => by rw [hl o ho, hl d hd]; exact ahI_congr (f.cnt hn))
def RA (σ : St) (i : Nat) (u : St) : Prop := FrS σ u ∧ ∀ d, d < i → u.1 71 d = 0 ∧ u.1 72 d = 0
theorem RA_step {σ u : St} {i : Nat} (h : RA σ i u) : RA σ (i + 1) (sw (sw u 71 i 0) 72 i 0) := by
  refine ⟨(h.1.sw _ _ (by omega) ⟨by decide, by decide⟩).sw _ _ (by omega) ⟨by decide, by decide⟩, fun d hd => ?_⟩
  by_cases e : d = i
  · subst e
    refine ⟨by rw [rd_n (by decide), rd_s], by rw [rd_s]⟩
  · have := h.2 d (by omega)
    refine ⟨by rw [rd_n (by decide), rd_k e]; exact this.1, by rw [rd_k e, rd_n (by decide)]; exact this.2⟩
def RBr (σ : St) (n m d : Nat) (u : St) : Prop := u.1 71 d = sumF (fun r => scF σ n r d) m ∧ u.1 72 d = sumF (fun r => wnF σ n r d) m ∧ ∀ k, k < m → u.1 70 (10 * d + k) = scF σ n k d
def RB (σ : St) (n i : Nat) (u : St) : Prop := FrS σ u ∧ ∀ d, d < 6 → RBr σ n i d u
def RC (σ : St) (n i o : Nat) (u : St) : Prop := FrS σ u ∧ (∀ d, d < 6 → u.1 69 d = lapF σ n i d n) ∧ ∀ d, d < 6 → RBr σ n (if d < o then i + 1 else i) d u
theorem RB_0 {σ u : St} {n : Nat} (h : RA σ 6 u) : RB σ n 0 u := ⟨h.1, fun d hd => ⟨(h.2 d hd).1, (h.2 d hd).2, fun k hk => absurd hk (by omega)⟩⟩
theorem FrS.lapF {σ u : St} {n : Nat} {r : Int} {d m : Nat} (f : FrS σ u) (hn : n ≤ 30) (hm : m ≤ n) : lapF u n r d m = lapF σ n r d m := by
  show bestF _ _ m = bestF _ _ m
  exact bestF_congr m (fun l hl => ⟨by rw [f.1 (7 + 2 * l) (by omega)], f.cnt hn l (by omega)⟩)
theorem RC_0 {σ u v : St} {n i : Nat} (hn : n ≤ 30) (h : RB σ n i u) (f : FLp u n (i : Int) n v) : RC σ n i 0 v := by
  refine ⟨h.1.tr f.1, fun d hd => by rw [f.2.2 d hd]; exact h.1.lapF hn (Nat.le_refl _), fun d hd => ?_⟩
  rw [if_neg (by omega)]
  obtain ⟨a, b, c⟩ := h.2 d hd
  exact ⟨by rw [f.2.1 71 (by decide)]; exact a, by rw [f.2.1 72 (by decide)]; exact b, fun k hk => by rw [f.2.1 70 (by decide)]; exact c k hk⟩
theorem RC_step {σ u v : St} {n i o : Nat} (hn : n ≤ 30) (hi : i < 10) (ho : o < 6) (h : RC σ n i o u) (f : ScP u i o (if u.1 69 o = -1 then 0 else ptF (plA u n o)) (if ¬ u.1 69 o = -1 ∧ plA u n o = 0 then 1 else 0) v) : RC σ n i (o + 1) v := by
  obtain ⟨h1, h2, h3⟩ := h
  rw [plA_eq h1 hn h2 ho, h2 o ho] at f
  obtain ⟨g1, g2, g3, g4, g5⟩ := f
  refine ⟨h1.tr g1, fun d hd => by rw [g2]; exact h2 d hd, fun d hd => ?_⟩
  obtain ⟨a, b, c⟩ := h3 d hd
  by_cases e : d = o
  · subst e
    rw [if_neg (by omega)] at a b c
    rw [if_pos (by omega)]
    refine ⟨by rw [g4, if_pos rfl, a]; rfl, by rw [g5, if_pos rfl, b]; rfl, fun k hk => ?_⟩
    rw [g3]
    by_cases q : k = i
    · subst q; rw [if_pos rfl]; rfl
    · rw [if_neg (by omega)]; exact c k (by omega)
  · have e2 : (if d < o + 1 then i + 1 else i) = if d < o then i + 1 else i := by
      by_cases q : d < o
      · rw [if_pos q, if_pos (by omega)]
      · rw [if_neg q, if_neg (by omega)]
    rw [e2]
    refine ⟨by rw [g4, if_neg e]; exact a, by rw [g5, if_neg e]; exact b, fun k hk => ?_⟩
    have hk2 : k < i + 1 := by
      split at hk <;> omega
    rw [g3, if_neg (by omega)]
    exact c k hk
theorem RC_end {σ u : St} {n i : Nat} (h : RC σ n i 6 u) : RB σ n (i + 1) u := ⟨h.1, fun d hd => by have := h.2.2 d hd; rwa [if_pos hd] at this⟩
theorem RC_b {σ u : St} {n i o d : Nat} (h : RC σ n i o u) (hi : i < 10) (hd : d < 6) : (0 ≤ u.1 71 d ∧ u.1 71 d ≤ 100000) ∧ 0 ≤ u.1 72 d ∧ u.1 72 d ≤ 100000 := by
  obtain ⟨a, b, -⟩ := h.2.2 d hd
  have h1 := sumF_b (f := fun r => scF σ n r d) (c := 10) (fun l => scF_b) (if d < o then i + 1 else i)
  have h2 := sumF_b (f := fun r => wnF σ n r d) (c := 1) (fun l => wnF_b) (if d < o then i + 1 else i)
  rw [a, b]
  have : (if d < o then i + 1 else i) ≤ 10 := by split <;> omega
  omega
/-! dropping the least -/
def drF (B : Int) (R : Nat) (a : Nat → Int) (s : Int) : Nat → (Nat → Int) × Int
  | 0 => (a, s)
  | k + 1 => (ur (drF B R a s k).1 (amG (drF B R a s k).1 R) B, (drF B R a s k).2 - (drF B R a s k).1 (amG (drF B R a s k).1 R))
theorem amG_congr {a b : Nat → Int} : ∀ m, (∀ k, k < m → a k = b k) → amG a m = amG b m := by
  intro m
  induction m with
  | zero => intro _; rfl
  | succ m ih =>
    intro h
    have e := ih (fun k hk => h k (by omega))
    rw [amG, amG, e, h m (by omega)]
    cases m with
    | zero => rw [show a (amG b 0) = b (amG b 0) from h 0 (by omega)]
    | succ m => rw [h (amG b (m + 1)) (by have := amG_lt (a := b) m; omega)]
theorem amG_min {a : Nat → Int} : ∀ m k, k < m → a (amG a m) ≤ a k := by
  intro m
  induction m with
  | zero => intro k hk; omega
  | succ m ih =>
    intro k hk
    rw [amG]
    rcases Nat.lt_or_ge k m with q | q
    · have := ih k q
      split <;> omega
    · have e : k = m := by omega
      subst e
      split <;> omega
def tkF (a : Nat → Int) (R : Nat) : Int := sumF (fun k => if 10 < a k then 1 else 0) R
theorem tkF_ur {a : Nat → Int} {p : Nat} {v : Int} : ∀ R, tkF (ur a p v) R ≤ tkF a R + 1 ∧ (R ≤ p → tkF (ur a p v) R ≤ tkF a R) := by
  intro R
  induction R with
  | zero => exact ⟨by show (0 : Int) ≤ 0 + 1; omega, fun _ => Int.le_refl 0⟩
  | succ R ih =>
    have e1 : tkF (ur a p v) (R + 1) = tkF (ur a p v) R + (if 10 < ur a p v R then 1 else 0) := rfl
    have e2 : tkF a (R + 1) = tkF a R + (if 10 < a R then 1 else 0) := rfl
    rw [e1, e2]
    by_cases q : R = p
    · have h := ih.2 (by omega)
      refine ⟨?_, fun h => absurd h (by omega)⟩
      split <;> split <;> omega
    · have e : ur a p v R = a R := by simp [ur, q]
      rw [e]
      exact ⟨by omega, fun h => by have := ih.2 (by omega); omega⟩
theorem tkF_all {a : Nat → Int} : ∀ R : Nat, (∀ k, k < R → 10 < a k) → tkF a R = R := by
  intro R
  induction R with
  | zero => intro _; rfl
  | succ R ih =>
    intro h
    have e2 : tkF a (R + 1) = tkF a R + (if 10 < a R then 1 else 0) := rfl
    rw [e2, ih (fun k hk => h k (by omega)), if_pos (h R (by omega))]
    omega
theorem drF_tk {B : Int} {R : Nat} {a : Nat → Int} {s : Int} (ha : ∀ k, k < R → 0 ≤ a k ∧ a k ≤ 10) (hB : 10 < B) : ∀ j : Nat, tkF (drF B R a s j).1 R ≤ j ∧ ∀ k, k < R → 0 ≤ (drF B R a s j).1 k := by
  intro j
  induction j with
  | zero =>
    refine ⟨?_, fun k hk => (ha k hk).1⟩
    have : tkF a R = 0 := by
      have : ∀ m, m ≤ R → tkF a m = 0 := by
        intro m
        induction m with
        | zero => intro _; rfl
        | succ m ih =>
          intro hm
          have e2 : tkF a (m + 1) = tkF a m + (if 10 < a m then 1 else 0) := rfl
          have := ha m (by omega)
          rw [e2, ih (by omega), if_neg (by omega)]
          rfl
      exact this R (Nat.le_refl _)
    show tkF a R ≤ _
    omega
  | succ j ih =>
    have := (tkF_ur (a := (drF B R a s j).1) (p := amG (drF B R a s j).1 R) (v := B) R).1
    refine ⟨by show tkF (ur _ _ _) R ≤ _; omega, fun k hk => ?_⟩
    show 0 ≤ ur _ _ _ k
    unfold ur
    split
    · omega
    · exact ih.2 k hk
/-- what is taken is a score that was not taken yet -/
theorem drF_low {B : Int} {R : Nat} {a : Nat → Int} {s : Int} (ha : ∀ k, k < R → 0 ≤ a k ∧ a k ≤ 10) (hB : 10 < B) {j : Nat} (hj : j < R) : 0 ≤ (drF B R a s j).1 (amG (drF B R a s j).1 R) ∧ (drF B R a s j).1 (amG (drF B R a s j).1 R) ≤ 10 := by
  obtain ⟨h1, h2⟩ := drF_tk (s := s) ha hB j
  obtain ⟨m, rfl⟩ : ∃ m, R = m + 1 := ⟨R - 1, by omega⟩
  refine ⟨h2 _ (amG_lt m), ?_⟩
  apply Classical.byContradiction
  intro q
  have := tkF_all (a := (drF B (m + 1) a s j).1) (m + 1) (fun k hk => by have := amG_min (a := (drF B (m + 1) a s j).1) (m + 1) k hk; omega)
  omega
theorem drF_s {B : Int} {R : Nat} {a : Nat → Int} {s : Int} (ha : ∀ k, k < R → 0 ≤ a k ∧ a k ≤ 10) (hB : 10 < B) : ∀ j : Nat, j ≤ R → s - 10 * j ≤ (drF B R a s j).2 ∧ (drF B R a s j).2 ≤ s := by
  intro j
  induction j with
  | zero => intro _; show s - 10 * ((0 : Nat) : Int) ≤ s ∧ s ≤ s; omega
  | succ j ih =>
    intro hj
    have h1 := ih (by omega)
    have h2 := drF_low (s := s) ha hB (j := j) (by omega)
    show _ ≤ (drF B R a s j).2 - _ ∧ (drF B R a s j).2 - _ ≤ _
    omega
noncomputable def drC (σ : St) (n R d j : Nat) : (Nat → Int) × Int := drF 100 R (fun k => scF σ n k d) (sumF (fun r => scF σ n r d) R) j
noncomputable def ptsF (σ : St) (n R D d : Nat) : Int := (drC σ n R d (if D ≤ R then D else R)).2
noncomputable def wonF (σ : St) (n R d : Nat) : Int := sumF (fun r => wnF σ n r d) R
def RD (σ : St) (n R D i : Nat) (u : St) : Prop := FrS σ u ∧ ∀ d, d < 6 → u.1 72 d = wonF σ n R d ∧ (d < i → u.1 71 d = ptsF σ n R D d) ∧ (i ≤ d → u.1 71 d = sumF (fun r => scF σ n r d) R ∧ ∀ k, k < R → u.1 70 (10 * d + k) = scF σ n k d)
def RE (σ : St) (n R D i j : Nat) (u : St) : Prop := FrS σ u ∧ (∀ d, d < 6 → u.1 72 d = wonF σ n R d ∧ (d < i → u.1 71 d = ptsF σ n R D d) ∧ (i < d → u.1 71 d = sumF (fun r => scF σ n r d) R ∧ ∀ k, k < R → u.1 70 (10 * d + k) = scF σ n k d)) ∧ u.1 71 i = (drC σ n R i j).2 ∧ ∀ k, k < R → u.1 70 (10 * i + k) = (drC σ n R i j).1 k
theorem RD_0 {σ u : St} {n R D : Nat} (h : RB σ n R u) : RD σ n R D 0 u := ⟨h.1, fun d hd => ⟨(h.2 d hd).2.1, fun q => absurd q (by omega), fun _ => ⟨(h.2 d hd).1, (h.2 d hd).2.2⟩⟩⟩
theorem RE_0 {σ u : St} {n R D i : Nat} (hi : i < 6) (h : RD σ n R D i u) : RE σ n R D i 0 u :=
  ⟨h.1, fun d hd => ⟨(h.2 d hd).1, (h.2 d hd).2.1, fun q => (h.2 d hd).2.2 (by omega)⟩, ((h.2 i hi).2.2 (Nat.le_refl _)).1, ((h.2 i hi).2.2 (Nat.le_refl _)).2⟩
theorem RE_end {σ u : St} {n R D i : Nat} (h : RE σ n R D i (if D ≤ R then D else R) u) : RD σ n R D (i + 1) u := by
  refine ⟨h.1, fun d hd => ⟨(h.2.1 d hd).1, fun q => ?_, fun q => (h.2.1 d hd).2.2 (by omega)⟩⟩
  by_cases e : d = i
  · subst e; exact h.2.2.1
  · exact (h.2.1 d hd).2.1 (by omega)
theorem RE_b {σ u : St} {n R D i j : Nat} (hR : R ≤ 10) (h : RE σ n R D i j u) (hj : j < R) : -1000 ≤ u.1 71 i ∧ u.1 71 i ≤ 1000 ∧ 0 ≤ u.1 70 (10 * i + amG (fun k => u.1 70 (10 * i + k)) R) ∧ u.1 70 (10 * i + amG (fun k => u.1 70 (10 * i + k)) R) ≤ 10 := by
  have e : amG (fun k => u.1 70 (10 * i + k)) R = amG (drC σ n R i j).1 R := amG_congr R (fun k hk => h.2.2.2 k hk)
  have hl : amG (drC σ n R i j).1 R < R := by
    obtain ⟨m, rfl⟩ : ∃ m, R = m + 1 := ⟨R - 1, by omega⟩
    exact amG_lt m
  rw [e, h.2.2.2 _ hl, h.2.2.1]
  have h0 := sumF_b (f := fun r => scF σ n r i) (c := 10) (fun l => scF_b) R
  have h1 := drF_s (B := 100) (R := R) (a := fun k => scF σ n k i) (s := sumF (fun r => scF σ n r i) R) (fun k _ => scF_b) (by decide) j (by omega)
  have h2 := drF_low (B := 100) (R := R) (a := fun k => scF σ n k i) (s := sumF (fun r => scF σ n r i) R) (fun k _ => scF_b) (by decide) hj
  unfold drC
  omega
theorem RE_step {σ u : St} {n R D i j : Nat} (hR : R ≤ 10) (hi : i < 6) (h : RE σ n R D i j u) (hj : j < R) : RE σ n R D i (j + 1) (sw (sw u 70 (10 * i + amG (fun k => u.1 70 (10 * i + k)) R) 100) 71 i (u.1 71 i - u.1 70 (10 * i + amG (fun k => u.1 70 (10 * i + k)) R))) := by
  have hb := RE_b hR h hj
  have e : amG (fun k => u.1 70 (10 * i + k)) R = amG (drC σ n R i j).1 R := amG_congr R (fun k hk => h.2.2.2 k hk)
  have hl : amG (drC σ n R i j).1 R < R := by
    obtain ⟨m, rfl⟩ : ∃ m, R = m + 1 := ⟨R - 1, by omega⟩
    exact amG_lt m
  refine ⟨(h.1.sw _ _ (by omega) ⟨by decide, by decide⟩).sw _ _ (by omega) ⟨by omega, by omega⟩, fun d hd => ?_, ?_, fun k hk => ?_⟩
  · obtain ⟨a, b, c⟩ := h.2.1 d hd
    refine ⟨by rw [rd_n (by decide), rd_n (by decide)]; exact a, fun q => by rw [rd_k (by omega), rd_n (by decide)]; exact b q, fun q => ⟨by rw [rd_k (by omega), rd_n (by decide)]; exact (c q).1, fun k hk => ?_⟩⟩
    rw [rd_n (by decide), rd_k (by rw [e]; omega)]
    exact (c q).2 k hk
  · rw [rd_s, e, h.2.2.2 _ hl, h.2.2.1]
    rfl
  · rw [rd_n (by decide), e, sw_get]
    show _ = ur _ _ _ k
    unfold ur
    by_cases q : k = amG (drC σ n R i j).1 R
    · rw [if_pos ⟨rfl, by omega⟩]
      exact (if_pos q).symm
    · rw [if_neg (by omega), h.2.2.2 k hk]
      exact (if_neg q).symm
def RK (σ : St) (n R D : Nat) (u : St) : Prop := FrS σ u ∧ ∀ d, d < 6 → u.1 71 d = ptsF σ n R D d ∧ u.1 72 d = wonF σ n R d
theorem RK_of {σ u : St} {n R D : Nat} (h : RD σ n R D 6 u) : RK σ n R D u := ⟨h.1, fun d hd => ⟨(h.2 d hd).2.1 hd, (h.2 d hd).1⟩⟩

set_option maxRecDepth 100000 in
set_option maxHeartbeats 4000000 in
theorem m_X4_reckon (g : Geo) (l : Launch) (hl9 : l.stackTraces = false) (σ : St) (hR : RG σ) (n R D : Nat) (hLB : LB σ n) (hRr : σ.1 67 1 = (R : Int)) (hR10 : R ≤ 10) (hDd : σ.1 67 3 = (D : Int)) : Met l yX4_reckon wsX4_reckon ({ frames := 4, cells := 0, slots := 0, locals := 94 }) (va_Pc [.ref (ga g (67)), .ref (ga g (5))] (World g σ)) (QV g (fun u => RK σ n R D u)) 0 0 (gA g) := by
  refine V_met hl9 (by decide) rfl (Nat.le_of_ble_eq_true rfl) ?_
  intro p9 e9 s9 m9 b9 t9 c9 X hr _
  have hn := hLB.1
  have hn30 := hLB.2.1
  refine V_lv (lv' := [(0, .ref (ga g (67))), (1, .ref (ga g (5)))]) rfl ?_
  refine V_iconst X dX4_reckon_0 ?_
  refine V_istore_n X [(2, .int (iN (0))), (0, .ref (ga g (67))), (1, .ref (ga g (5)))] dX4_reckon_1 rfl (by decide) rfl ?_
  refine V_sub (lv' := [(0, .ref (ga g (67))), (1, .ref (ga g (5))), (2, .int (iN (0)))]) [1, 2, 0] rfl ?_
  refine V_up (N := 6) (fun (i : Nat) (u : St) (lw : List (Nat × Value)) => True ∧ [(0, .ref (ga g (67))), (1, .ref (ga g (5))), (2, .int (iN (((i : Nat) : Int))))] = lw ∧ (RA σ i u)) (i0 := 0) (Nat.zero_le _) ⟨trivial, rfl, ⟨FrS.rf hR, fun d hd => absurd hd (by omega)⟩⟩ ?_ ?_
  · skip
    rintro u1 _ ⟨-, rfl, hv⟩
    refine V_iload_n X 2 rfl dX4_reckon_2 rfl ?_
    refine V_bipush X (by decide) dX4_reckon_3 ?_
    refine V_icmp_ge X 28 ⟨by omega, by omega⟩ ⟨by decide, by decide⟩ dX4_reckon_5 (by decide) (fun _ => ?_) (fun h => absurd h (by decide))
    refine V_iconst X dX4_reckon_28 ?_
    refine V_istore_n X [(2, .int (iN (0))), (0, .ref (ga g (67))), (1, .ref (ga g (5)))] dX4_reckon_29 rfl (by decide) rfl ?_
    refine V_sub (lv' := [(0, .ref (ga g (67))), (1, .ref (ga g (5))), (2, .int (iN (0)))]) [1, 2, 0] rfl ?_
    refine V_up (N := R) (fun (i : Nat) (u : St) (lw : List (Nat × Value)) => True ∧ [(0, .ref (ga g (67))), (1, .ref (ga g (5))), (2, .int (iN (((i : Nat) : Int))))] = lw ∧ (RB σ n i u)) (i0 := 0) (Nat.zero_le _) ⟨trivial, rfl, RB_0 hv⟩ ?_ ?_
    · skip
      rintro u1 _ ⟨-, rfl, hv⟩
      refine V_iload_n X 2 rfl dX4_reckon_30 rfl ?_
      refine V_aload_n X 0 rfl dX4_reckon_31 rfl ?_
      refine V_get X (ci := 4) (67) (by decide) (rfl) (by decide) rfl (fun _ h => List.mem_cons_of_mem _ (List.mem_append_left _ (List.mem_append_left _ (List.mem_append_right _ h)))) 1 (by decide) (List.mem_of_getElem? (i := 3) rfl) rfl rfl dX4_reckon_32 ?_
      refine V_top (b := σ.1 67 1) (by rw [hv.1.1 67 (by omega)]) ?_
      refine V_icmp_ge X 71 ⟨by omega, by omega⟩ (hR _ _) dX4_reckon_35 (by decide) (fun _ => ?_) (fun h => absurd h (by omega))
      refine V_iconst X dX4_reckon_71 ?_
      refine V_istore_n X [(2, .int (iN (0))), (0, .ref (ga g (67))), (1, .ref (ga g (5)))] dX4_reckon_72 rfl (by decide) rfl ?_
      refine V_sub (lv' := [(0, .ref (ga g (67))), (1, .ref (ga g (5))), (2, .int (iN (0)))]) [1, 2, 0] rfl ?_
      refine V_up (N := 6) (fun (i : Nat) (u : St) (lw : List (Nat × Value)) => True ∧ [(0, .ref (ga g (67))), (1, .ref (ga g (5))), (2, .int (iN (((i : Nat) : Int))))] = lw ∧ (RD σ n R D i u)) (i0 := 0) (Nat.zero_le _) ⟨trivial, rfl, RD_0 hv⟩ ?_ ?_
      · skip
        rintro u1 _ ⟨-, rfl, hv⟩
        refine V_iload_n X 2 rfl dX4_reckon_73 rfl ?_
        refine V_bipush X (by decide) dX4_reckon_74 ?_
        refine V_icmp_ge X 123 ⟨by omega, by omega⟩ ⟨by decide, by decide⟩ dX4_reckon_76 (by decide) (fun _ => ?_) (fun h => absurd h (by decide))
        exact V_vret X hr (by exact RK_of hv) dX4_reckon_123 (by decide) (by decide)
      · skip
        rintro i u1 _ hiN ⟨-, rfl, hv⟩ kk
        refine V_iload_n X 2 rfl dX4_reckon_73 rfl ?_
        refine V_bipush X (by decide) dX4_reckon_74 ?_
        refine V_icmp_ge X 123 ⟨by omega, by omega⟩ ⟨by decide, by decide⟩ dX4_reckon_76 (by decide) (fun h => absurd h (by omega)) (fun _ => ?_)
        refine V_iconst X dX4_reckon_79 ?_
        refine V_istore_n X [(3, .int (iN (0))), (0, .ref (ga g (67))), (1, .ref (ga g (5))), (2, .int (iN (((i : Nat) : Int))))] dX4_reckon_80 rfl (by decide) rfl ?_
        refine V_sub (lv' := [(0, .ref (ga g (67))), (1, .ref (ga g (5))), (2, .int (iN (((i : Nat) : Int)))), (3, .int (iN (0)))]) [1, 2, 3, 0] rfl ?_
        refine V_up (N := (if D ≤ R then D else R)) (fun (o : Nat) (u : St) (lw : List (Nat × Value)) => True ∧ [(0, .ref (ga g (67))), (1, .ref (ga g (5))), (2, .int (iN (((i : Nat) : Int)))), (3, .int (iN (((o : Nat) : Int))))] = lw ∧ (RE σ n R D i o u)) (i0 := 0) (Nat.zero_le _) ⟨trivial, rfl, RE_0 hiN hv⟩ ?_ ?_
        · skip
          rintro u2 _ ⟨-, rfl, hw⟩
          have hmn : (if D ≤ R then D else R) ≤ D ∧ (if D ≤ R then D else R) ≤ R ∧ ((if D ≤ R then D else R) = D ∨ (if D ≤ R then D else R) = R) := by split <;> omega
          refine V_iload_n X 3 rfl dX4_reckon_81 rfl ?_
          refine V_aload_n X 0 rfl dX4_reckon_82 rfl ?_
          refine V_get X (ci := 4) (67) (by decide) (rfl) (by decide) rfl (fun _ h => List.mem_cons_of_mem _ (List.mem_append_left _ (List.mem_append_left _ (List.mem_append_right _ h)))) 3 (by decide) (List.mem_of_getElem? (i := 4) rfl) rfl rfl dX4_reckon_83 ?_
          refine V_top (b := σ.1 67 3) (by rw [hw.1.1 67 (by omega)]) ?_
          refine V_icmp_ge X 117 ⟨by omega, by omega⟩ (hR _ _) dX4_reckon_86 (by decide) (fun q1 => ?_) (fun q1 => ?_)
          · skip
            refine V_iinc X [(2, .int (iN (((i : Nat) : Int) + 1))), (0, .ref (ga g (67))), (1, .ref (ga g (5))), (3, .int (iN ((((if D ≤ R then D else R) : Nat) : Int))))] 2 (((i : Nat) : Int) + 1) (rfl) rfl dX4_reckon_117 (by decide) rfl ?_
            refine V_goto X 73 dX4_reckon_120 (by decide) ?_
            refine V_sub (lv' := [(0, .ref (ga g (67))), (1, .ref (ga g (5))), (2, .int (iN (((i : Nat) : Int) + 1)))]) [1, 2, 0] rfl ?_
            refine V_lv (congrArg (fun q : Int => ([(0, .ref (ga g (67))), (1, .ref (ga g (5))), (2, .int (iN q))] : List (Nat × Value))) (show ((i : Nat) : Int) + 1 = (((i + 1) : Nat) : Int) from by omega)) ?_
            exact kk _ _ ⟨trivial, rfl, RE_end hw⟩
          · skip
            refine V_iload_n X 3 rfl dX4_reckon_89 rfl ?_
            refine V_aload_n X 0 rfl dX4_reckon_90 rfl ?_
            refine V_get X (ci := 4) (67) (by decide) (rfl) (by decide) rfl (fun _ h => List.mem_cons_of_mem _ (List.mem_append_left _ (List.mem_append_left _ (List.mem_append_right _ h)))) 1 (by decide) (List.mem_of_getElem? (i := 3) rfl) rfl rfl dX4_reckon_91 ?_
            refine V_top (b := σ.1 67 1) (by rw [hw.1.1 67 (by omega)]) ?_
            refine V_icmp_ge X 117 ⟨by omega, by omega⟩ (hR _ _) dX4_reckon_94 (by decide) (fun _ => ?_) (fun h => absurd h (by omega))
            refine V_iinc X [(2, .int (iN (((i : Nat) : Int) + 1))), (0, .ref (ga g (67))), (1, .ref (ga g (5))), (3, .int (iN ((((if D ≤ R then D else R) : Nat) : Int))))] 2 (((i : Nat) : Int) + 1) (rfl) rfl dX4_reckon_117 (by decide) rfl ?_
            refine V_goto X 73 dX4_reckon_120 (by decide) ?_
            refine V_sub (lv' := [(0, .ref (ga g (67))), (1, .ref (ga g (5))), (2, .int (iN (((i : Nat) : Int) + 1)))]) [1, 2, 0] rfl ?_
            refine V_lv (congrArg (fun q : Int => ([(0, .ref (ga g (67))), (1, .ref (ga g (5))), (2, .int (iN q))] : List (Nat × Value))) (show ((i : Nat) : Int) + 1 = (((i + 1) : Nat) : Int) from by omega)) ?_
            exact kk _ _ ⟨trivial, rfl, RE_end hw⟩
        · skip
          rintro o u2 _ ho ⟨-, rfl, hw⟩ kk2
          have hoR : o < R := by split at ho <;> omega
          have hoD : o < D := by split at ho <;> omega
          refine V_iload_n X 3 rfl dX4_reckon_81 rfl ?_
          refine V_aload_n X 0 rfl dX4_reckon_82 rfl ?_
          refine V_get X (ci := 4) (67) (by decide) (rfl) (by decide) rfl (fun _ h => List.mem_cons_of_mem _ (List.mem_append_left _ (List.mem_append_left _ (List.mem_append_right _ h)))) 3 (by decide) (List.mem_of_getElem? (i := 4) rfl) rfl rfl dX4_reckon_83 ?_
          refine V_top (b := σ.1 67 3) (by rw [hw.1.1 67 (by omega)]) ?_
          refine V_icmp_ge X 117 ⟨by omega, by omega⟩ (hR _ _) dX4_reckon_86 (by decide) (fun h => absurd h (by omega)) (fun _ => ?_)
          refine V_iload_n X 3 rfl dX4_reckon_89 rfl ?_
          refine V_aload_n X 0 rfl dX4_reckon_90 rfl ?_
          refine V_get X (ci := 4) (67) (by decide) (rfl) (by decide) rfl (fun _ h => List.mem_cons_of_mem _ (List.mem_append_left _ (List.mem_append_left _ (List.mem_append_right _ h)))) 1 (by decide) (List.mem_of_getElem? (i := 3) rfl) rfl rfl dX4_reckon_91 ?_
          refine V_top (b := σ.1 67 1) (by rw [hw.1.1 67 (by omega)]) ?_
          refine V_icmp_ge X 117 ⟨by omega, by omega⟩ (hR _ _) dX4_reckon_94 (by decide) (fun h => absurd h (by omega)) (fun _ => ?_)
          refine V_aload_n X 0 rfl dX4_reckon_97 rfl ?_
          refine V_get X (ci := 4) (67) (by decide) (rfl) (by decide) rfl (fun _ h => List.mem_cons_of_mem _ (List.mem_append_left _ (List.mem_append_left _ (List.mem_append_right _ h)))) 6 (by decide) (List.mem_of_getElem? (i := 1) rfl) rfl rfl dX4_reckon_98 ?_
          refine V_iload_n X 2 rfl dX4_reckon_101 rfl ?_
          refine V_dup2 X rfl rfl dX4_reckon_102 ?_
          refine V_iald X (N := 6) (71) (by decide) (rfl) (rfl) (by decide) (i) (rfl) (by omega) dX4_reckon_103 ?_
          refine V_aload_n X 0 rfl dX4_reckon_104 rfl ?_
          refine V_iload_n X 2 rfl dX4_reckon_105 rfl ?_
          have hb2 := RE_b hR10 hw hoR
          refine V_callV_I X (na := 1) (ci := 4) (b0 := 67) (by decide) (rfl) (by decide) rfl (m_X4_takeLeast g l hl9 u2 hw.1.2.2 i R hiN (by omega) hR10 (by rw [hw.1.1 67 (by omega)]; exact hRr)) gX4_reckon_X4_takeLeast rfl rfl rfl (by decide +kernel) ⟨Nat.le_of_ble_eq_true rfl, Nat.le_of_ble_eq_true rfl⟩ rfl rfl (Nat.le_of_ble_eq_true rfl) ⟨Nat.le_of_ble_eq_true rfl, Nat.le_of_ble_eq_true rfl⟩ dX4_reckon_106 (fun z2 u3 z2r hp4 => ?_)
          obtain ⟨hz, hu5⟩ := hp4
          have hu5 := hu5.symm
          subst hu5
          subst hz
          refine V_isub X dX4_reckon_109 ?_
          refine V_iast X (N := 6) (71) (by decide) (rfl) (rfl) (by decide) (i) (rfl) (by omega) dX4_reckon_110 ?_
          refine V_iinc X [(3, .int (iN (((o : Nat) : Int) + 1))), (0, .ref (ga g (67))), (1, .ref (ga g (5))), (2, .int (iN (((i : Nat) : Int))))] 3 (((o : Nat) : Int) + 1) (rfl) rfl dX4_reckon_111 (by decide) rfl ?_
          refine V_goto X 81 dX4_reckon_114 (by decide) ?_
          refine V_sub (lv' := [(0, .ref (ga g (67))), (1, .ref (ga g (5))), (2, .int (iN (((i : Nat) : Int)))), (3, .int (iN (((o : Nat) : Int) + 1)))]) [1, 2, 3, 0] rfl ?_
          refine V_lv (congrArg (fun q : Int => ([(0, .ref (ga g (67))), (1, .ref (ga g (5))), (2, .int (iN (((i : Nat) : Int)))), (3, .int (iN q))] : List (Nat × Value))) (show ((o : Nat) : Int) + 1 = (((o + 1) : Nat) : Int) from by omega)) ?_
          exact kk2 _ _ ⟨trivial, rfl, RE_step hR10 hiN hw hoR⟩
    · skip
      rintro i u1 _ hiN ⟨-, rfl, hv⟩ kk
      refine V_iload_n X 2 rfl dX4_reckon_30 rfl ?_
      refine V_aload_n X 0 rfl dX4_reckon_31 rfl ?_
      refine V_get X (ci := 4) (67) (by decide) (rfl) (by decide) rfl (fun _ h => List.mem_cons_of_mem _ (List.mem_append_left _ (List.mem_append_left _ (List.mem_append_right _ h)))) 1 (by decide) (List.mem_of_getElem? (i := 3) rfl) rfl rfl dX4_reckon_32 ?_
      refine V_top (b := σ.1 67 1) (by rw [hv.1.1 67 (by omega)]) ?_
      refine V_icmp_ge X 71 ⟨by omega, by omega⟩ (hR _ _) dX4_reckon_35 (by decide) (fun h => absurd h (by omega)) (fun _ => ?_)
      refine V_aload_n X 0 rfl dX4_reckon_38 rfl ?_
      refine V_aload_n X 1 rfl dX4_reckon_39 rfl ?_
      refine V_iload_n X 2 rfl dX4_reckon_40 rfl ?_
      refine V_callV_V X (na := 2) (ci := 4) (b0 := 67) (by decide) (rfl) (by decide) rfl (m_X4_findLaps g l hl9 u1 hv.1.2.2 n (hv.1.LB hLB) (i : Int) ⟨by omega, by omega⟩) gX4_reckon_X4_findLaps rfl rfl rfl (by decide +kernel) ⟨Nat.le_of_ble_eq_true rfl, Nat.le_of_ble_eq_true rfl⟩ rfl rfl (Nat.le_of_ble_eq_true rfl) ⟨Nat.le_of_ble_eq_true rfl, Nat.le_of_ble_eq_true rfl⟩ dX4_reckon_41 (fun u7 hp8 => ?_)
      have hw := RC_0 hn30 hv hp8
      refine V_iconst X dX4_reckon_44 ?_
      refine V_istore_n X [(3, .int (iN (0))), (0, .ref (ga g (67))), (1, .ref (ga g (5))), (2, .int (iN (((i : Nat) : Int))))] dX4_reckon_45 rfl (by decide) rfl ?_
      refine V_sub (lv' := [(0, .ref (ga g (67))), (1, .ref (ga g (5))), (2, .int (iN (((i : Nat) : Int)))), (3, .int (iN (0)))]) [1, 2, 3, 0] rfl ?_
      refine V_up (N := 6) (fun (o : Nat) (u : St) (lw : List (Nat × Value)) => True ∧ [(0, .ref (ga g (67))), (1, .ref (ga g (5))), (2, .int (iN (((i : Nat) : Int)))), (3, .int (iN (((o : Nat) : Int))))] = lw ∧ (RC σ n i o u)) (i0 := 0) (Nat.zero_le _) ⟨trivial, rfl, hw⟩ ?_ ?_
      · skip
        rintro u2 _ ⟨-, rfl, hw⟩
        refine V_iload_n X 3 rfl dX4_reckon_46 rfl ?_
        refine V_bipush X (by decide) dX4_reckon_47 ?_
        refine V_icmp_ge X 65 ⟨by omega, by omega⟩ ⟨by decide, by decide⟩ dX4_reckon_49 (by decide) (fun _ => ?_) (fun h => absurd h (by decide))
        refine V_iinc X [(2, .int (iN (((i : Nat) : Int) + 1))), (0, .ref (ga g (67))), (1, .ref (ga g (5))), (3, .int (iN (((6 : Nat) : Int))))] 2 (((i : Nat) : Int) + 1) (rfl) rfl dX4_reckon_65 (by decide) rfl ?_
        refine V_goto X 30 dX4_reckon_68 (by decide) ?_
        refine V_sub (lv' := [(0, .ref (ga g (67))), (1, .ref (ga g (5))), (2, .int (iN (((i : Nat) : Int) + 1)))]) [1, 2, 0] rfl ?_
        refine V_lv (congrArg (fun q : Int => ([(0, .ref (ga g (67))), (1, .ref (ga g (5))), (2, .int (iN q))] : List (Nat × Value))) (show ((i : Nat) : Int) + 1 = (((i + 1) : Nat) : Int) from by omega)) ?_
        exact kk _ _ ⟨trivial, rfl, RC_end hw⟩
      · skip
        rintro o u2 _ ho ⟨-, rfl, hw⟩ kk2
        refine V_iload_n X 3 rfl dX4_reckon_46 rfl ?_
        refine V_bipush X (by decide) dX4_reckon_47 ?_
        refine V_icmp_ge X 65 ⟨by omega, by omega⟩ ⟨by decide, by decide⟩ dX4_reckon_49 (by decide) (fun h => absurd h (by omega)) (fun _ => ?_)
        refine V_aload_n X 0 rfl dX4_reckon_52 rfl ?_
        refine V_aload_n X 1 rfl dX4_reckon_53 rfl ?_
        refine V_iload_n X 2 rfl dX4_reckon_54 rfl ?_
        refine V_iload_n X 3 rfl dX4_reckon_55 rfl ?_
        have hb2 := RC_b hw (by omega) ho
        refine V_callV_V X (na := 3) (ci := 4) (b0 := 67) (by decide) (rfl) (by decide) rfl (m_X4_score g l hl9 u2 hw.1.2.2 n (hw.1.LB hLB) i o (by omega) ho hb2.1 hb2.2) gX4_reckon_X4_score rfl rfl rfl (by decide +kernel) ⟨Nat.le_of_ble_eq_true rfl, Nat.le_of_ble_eq_true rfl⟩ rfl rfl (Nat.le_of_ble_eq_true rfl) ⟨Nat.le_of_ble_eq_true rfl, Nat.le_of_ble_eq_true rfl⟩ dX4_reckon_56 (fun u10 hp11 => ?_)
        have hw2 := RC_step hn30 (by omega) ho hw hp11
        refine V_iinc X [(3, .int (iN (((o : Nat) : Int) + 1))), (0, .ref (ga g (67))), (1, .ref (ga g (5))), (2, .int (iN (((i : Nat) : Int))))] 3 (((o : Nat) : Int) + 1) (rfl) rfl dX4_reckon_59 (by decide) rfl ?_
        refine V_goto X 46 dX4_reckon_62 (by decide) ?_
        refine V_sub (lv' := [(0, .ref (ga g (67))), (1, .ref (ga g (5))), (2, .int (iN (((i : Nat) : Int)))), (3, .int (iN (((o : Nat) : Int) + 1)))]) [1, 2, 3, 0] rfl ?_
        refine V_lv (congrArg (fun q : Int => ([(0, .ref (ga g (67))), (1, .ref (ga g (5))), (2, .int (iN (((i : Nat) : Int)))), (3, .int (iN q))] : List (Nat × Value))) (show ((o : Nat) : Int) + 1 = (((o + 1) : Nat) : Int) from by omega)) ?_
        exact kk2 _ _ ⟨trivial, rfl, hw2⟩
  · skip
    rintro i u1 _ hiN ⟨-, rfl, hv⟩ kk
    refine V_iload_n X 2 rfl dX4_reckon_2 rfl ?_
    refine V_bipush X (by decide) dX4_reckon_3 ?_
    refine V_icmp_ge X 28 ⟨by omega, by omega⟩ ⟨by decide, by decide⟩ dX4_reckon_5 (by decide) (fun h => absurd h (by omega)) (fun _ => ?_)
    refine V_aload_n X 0 rfl dX4_reckon_8 rfl ?_
    refine V_get X (ci := 4) (67) (by decide) (rfl) (by decide) rfl (fun _ h => List.mem_cons_of_mem _ (List.mem_append_left _ (List.mem_append_left _ (List.mem_append_right _ h)))) 6 (by decide) (List.mem_of_getElem? (i := 1) rfl) rfl rfl dX4_reckon_9 ?_
    refine V_iload_n X 2 rfl dX4_reckon_12 rfl ?_
    refine V_iconst X dX4_reckon_13 ?_
    refine V_iast X (N := 6) (71) (by decide) (rfl) (rfl) (by decide) (i) (rfl) (by omega) dX4_reckon_14 ?_
    refine V_aload_n X 0 rfl dX4_reckon_15 rfl ?_
    refine V_get X (ci := 4) (67) (by decide) (rfl) (by decide) rfl (fun _ h => List.mem_cons_of_mem _ (List.mem_append_left _ (List.mem_append_left _ (List.mem_append_right _ h)))) 7 (by decide) (List.mem_of_getElem? (i := 2) rfl) rfl rfl dX4_reckon_16 ?_
    refine V_iload_n X 2 rfl dX4_reckon_19 rfl ?_
    refine V_iconst X dX4_reckon_20 ?_
    refine V_iast X (N := 6) (72) (by decide) (rfl) (rfl) (by decide) (i) (rfl) (by omega) dX4_reckon_21 ?_
    refine V_iinc X [(2, .int (iN (((i : Nat) : Int) + 1))), (0, .ref (ga g (67))), (1, .ref (ga g (5)))] 2 (((i : Nat) : Int) + 1) (rfl) rfl dX4_reckon_22 (by decide) rfl ?_
    refine V_goto X 2 dX4_reckon_25 (by decide) ?_
    refine V_sub (lv' := [(0, .ref (ga g (67))), (1, .ref (ga g (5))), (2, .int (iN (((i : Nat) : Int) + 1)))]) [1, 2, 0] rfl ?_
    refine V_lv (congrArg (fun q : Int => ([(0, .ref (ga g (67))), (1, .ref (ga g (5))), (2, .int (iN q))] : List (Nat × Value))) (show ((i : Nat) : Int) + 1 = (((i + 1) : Nat) : Int) from by omega)) ?_
    exact kk _ _ ⟨trivial, rfl, RA_step hv⟩
