/-! ===== the book: storing anew ===== -/
theorem unlF_b {ia ib : Nat → Int} {tb : Int} : ∀ T : Nat, 0 ≤ unlF ia ib tb T ∧ unlF ia ib tb T ≤ T := by
  intro T
  induction T with
  | zero => exact ⟨Int.le_refl 0, Int.le_refl 0⟩
  | succ T ih => exact unl_b ih
theorem stF_b {σ : St} {n j : Nat} {b : Int} (h0 : 0 ≤ σ.1 (7 + 2 * j) 1) (h : σ.1 (7 + 2 * j) 1 ≤ 60) : 0 ≤ stF σ n j b ∧ stF σ n j b ≤ 60 := by
  unfold stF
  split
  · have := unlF_b (ia := σ.1 (7 + 2 * j + 1)) (ib := σ.1 (7 + 2 * b.toNat + 1)) (tb := σ.1 (7 + 2 * b.toNat) 1) (σ.1 (7 + 2 * j) 1).toNat
    omega
  · omega
def adB (σ : St) (n j : Nat) : Int := if (0 ≤ σ.1 (7 + 2 * j) 6 ∧ σ.1 (7 + 2 * j) 6 < n) ∧ σ.1 (7 + 2 * (σ.1 (7 + 2 * j) 6).toNat) 11 < 5 then σ.1 (7 + 2 * j) 6 else -1
def addF (σ : St) (n j : Nat) (b : Int) : St := sw (sw (sw (sw σ (7 + 2 * j) 10 b) (7 + 2 * j) 12 (stF σ n j b)) (7 + 2 * j) 11 (if 0 ≤ b ∧ b < n then σ.1 (7 + 2 * b.toNat) 11 + 1 else 0)) 5 1 (σ.1 5 1 + 1)
theorem dpF_st {σ : St} {n j : Nat} {b w : Int} : dpF (sw (sw σ (7 + 2 * j) 10 b) (7 + 2 * j) 12 w) n j = if 0 ≤ b ∧ b < n then σ.1 (7 + 2 * b.toNat) 11 + 1 else 0 := by
  have e : (sw (sw σ (7 + 2 * j) 10 b) (7 + 2 * j) 12 w).1 (7 + 2 * j) 10 = b := by rw [rd_k (by decide), rd_s]
  unfold dpF
  rw [e, rd_k (by decide), rd_k (by decide)]
def mvF (σ : St) (n : Nat) (lap b : Int) : Nat → St
  | 0 => σ
  | i + 1 => if (mvF σ n lap b i).1 (7 + 2 * i) 10 = lap then
      sw (sw (sw (mvF σ n lap b i) (7 + 2 * i) 10 b) (7 + 2 * i) 12 (stF (mvF σ n lap b i) n i b)) (7 + 2 * i) 11 (dpF (sw (sw (mvF σ n lap b i) (7 + 2 * i) 10 b) (7 + 2 * i) 12 (stF (mvF σ n lap b i) n i b)) n i)
    else sw (mvF σ n lap b i) (7 + 2 * i) 11 (dpF (mvF σ n lap b i) n i)
theorem mvF_o {σ : St} {n : Nat} {lap b : Int} {a k : Nat} (h : (∀ l, l < n → a ≠ 7 + 2 * l) ∨ (k ≠ 10 ∧ k ≠ 11 ∧ k ≠ 12)) : ∀ i, i ≤ n → (mvF σ n lap b i).1 a k = σ.1 a k := by
  intro i
  induction i with
  | zero => intro _; rfl
  | succ i ih =>
    intro hi
    rw [mvF]
    rcases h with h | ⟨h1, h2, h3⟩
    · have := h i (by omega)
      split
      · rw [rd_n this, rd_n this, rd_n this, ih (by omega)]
      · rw [rd_n this, ih (by omega)]
    · split
      · rw [rd_k h2, rd_k h3, rd_k h1, ih (by omega)]
      · rw [rd_k h2, ih (by omega)]
theorem mvF_2 {σ : St} {n : Nat} {lap b : Int} : ∀ i, (mvF σ n lap b i).2 = σ.2 := by
  intro i
  induction i with
  | zero => rfl
  | succ i ih => rw [mvF]; split <;> exact ih
theorem mvF_base {σ : St} {n : Nat} {lap b : Int} {l : Nat} : ∀ i, i ≤ l → ∀ k, (mvF σ n lap b i).1 (7 + 2 * l) k = σ.1 (7 + 2 * l) k := by
  intro i
  induction i with
  | zero => intro _ _; rfl
  | succ i ih =>
    intro hi k
    have hne : 7 + 2 * l ≠ 7 + 2 * i := by omega
    rw [mvF]
    split
    · rw [rd_n hne, rd_n hne, rd_n hne, ih (by omega)]
    · rw [rd_n hne, ih (by omega)]
theorem mvF_b {σ : St} {n : Nat} {lap b : Int} (hR : RG σ) (hL : LB σ n) (hb : R32 b) : ∀ i, i ≤ n → RG (mvF σ n lap b i) ∧ ∀ l, l < n → 0 ≤ (mvF σ n lap b i).1 (7 + 2 * l) 11 ∧ (mvF σ n lap b i).1 (7 + 2 * l) 11 ≤ 30 + i := by
  intro i
  induction i with
  | zero => intro _; exact ⟨hR, fun l hl => by have := (hL.2.2 l hl).2.2.2.2.2.2.2.2.2.2.2; simpa [mvF] using this⟩
  | succ i ih =>
    intro hi
    obtain ⟨r, d⟩ := ih (by omega)
    have ht : (mvF σ n lap b i).1 (7 + 2 * i) 1 = σ.1 (7 + 2 * i) 1 := mvF_o (Or.inr ⟨by decide, by decide, by decide⟩) i (by omega)
    have hrow := hL.2.2 i (by omega)
    have hs := stF_b (σ := mvF σ n lap b i) (n := n) (j := i) (b := b) (by rw [ht]; exact hrow.1) (by rw [ht]; exact hrow.2.1)
    have hdp : ∀ x : Int, 0 ≤ (if 0 ≤ x ∧ x < (n : Int) then (mvF σ n lap b i).1 (7 + 2 * x.toNat) 11 + 1 else 0) ∧ (if 0 ≤ x ∧ x < (n : Int) then (mvF σ n lap b i).1 (7 + 2 * x.toNat) 11 + 1 else 0) ≤ 30 + (i + 1 : Nat) := by
      intro x
      split
      · have := d x.toNat (by omega); omega
      · omega
    have hn30 := hL.2.1
    rw [mvF]
    split
    · rw [dpF_st]
      have q := hdp b
      refine ⟨((r.sw _ _ hb).sw _ _ ⟨by omega, by omega⟩).sw _ _ ⟨by omega, by omega⟩, fun l hl => ?_⟩
      rw [sw_get]
      split
      · exact q
      · have := d l hl
        rw [rd_k (by decide), rd_k (by decide)]; omega
    · have q := hdp ((mvF σ n lap b i).1 (7 + 2 * i) 10)
      have e : dpF (mvF σ n lap b i) n i = if 0 ≤ (mvF σ n lap b i).1 (7 + 2 * i) 10 ∧ (mvF σ n lap b i).1 (7 + 2 * i) 10 < (n : Int) then (mvF σ n lap b i).1 (7 + 2 * ((mvF σ n lap b i).1 (7 + 2 * i) 10).toNat) 11 + 1 else 0 := rfl
      rw [← e] at q
      refine ⟨r.sw _ _ ⟨by omega, by omega⟩, fun l hl => ?_⟩
      rw [sw_get]
      split
      · exact q
      · have := d l hl; omega
def wkS (base : Nat → Int) (n : Nat) (b a : Int) : Nat → Int
  | 0 => a
  | i + 1 => if (0 ≤ wkS base n b a i ∧ wkS base n b a i < n) ∧ ¬ wkS base n b a i = b then base (wkS base n b a i).toNat else wkS base n b a i
theorem wkS_stop {base : Nat → Int} {n : Nat} {b a : Int} {i : Nat} (h : ¬ ((0 ≤ wkS base n b a i ∧ wkS base n b a i < n) ∧ ¬ wkS base n b a i = b)) : ∀ d, wkS base n b a (i + d) = wkS base n b a i := by
  intro d
  induction d with
  | zero => rfl
  | succ d ih =>
    show wkS base n b a ((i + d) + 1) = _
    rw [wkS, ih, if_neg h]
theorem wkS_stop5 {base : Nat → Int} {n : Nat} {b a : Int} {i : Nat} (hi : i ≤ 5) (h : ¬ ((0 ≤ wkS base n b a i ∧ wkS base n b a i < n) ∧ ¬ wkS base n b a i = b)) : wkS base n b a i = wkS base n b a 5 := by
  have := wkS_stop h (5 - i)
  rw [show i + (5 - i) = 5 by omega] at this
  exact this.symm
def bsC (σ : St) (l : Nat) : Int := σ.1 (7 + 2 * l) 10
theorem wkS_r {σ : St} (hR : RG σ) {n : Nat} {b a : Int} (ha : R32 a) : ∀ i, R32 (wkS (bsC σ) n b a i) := by
  intro i
  induction i with
  | zero => exact ha
  | succ i ih =>
    rw [wkS]
    split
    · exact hR _ _
    · exact ih

theorem cr_0 {P : Nat → Prop} [DecidablePred P] {j : Nat} : ∀ i, i ≤ j + 1 → sumF (fun l => if j < l ∧ P l then (1 : Int) else 0) i = 0 := by
  intro i
  induction i with
  | zero => intro _; rfl
  | succ i ih =>
    intro hi
    show sumF _ i + (if _ then (1 : Int) else 0) = 0
    rw [ih (by omega), if_neg (by omega)]
    rfl

set_option maxRecDepth 100000 in
set_option maxHeartbeats 4000000 in
theorem m_X0_restsOn (g : Geo) (l : Launch) (hl9 : l.stackTraces = false) (σ : St) (hR : RG σ) (n : Nat) (hn : σ.1 5 1 = (n : Int)) (hn30 : n ≤ 30) (a b : Int) (ha : R32 a) (hb : R32 b) : Met l yX0_restsOn wsX0_restsOn ({ frames := 1, cells := 0, slots := 0, locals := 21 }) (va_Pc [.ref (ga g (5)), .int (iN (a)), .int (iN (b))] (World g σ)) (QI g (fun z u => z = (if wkS (bsC σ) n b a 5 = b then 1 else 0) ∧ u = σ)) 0 0 (gA g) := by
  refine V_met hl9 (by decide) rfl (Nat.le_of_ble_eq_true rfl) ?_
  intro p9 e9 s9 m9 b9 t9 c9 X hr _
  refine V_lv (lv' := [(0, .ref (ga g (5))), (1, .int (iN (a))), (2, .int (iN (b)))]) rfl ?_
  refine V_iload_n X 1 rfl dX0_restsOn_0 rfl ?_
  refine V_istore_n X [(3, .int (iN (a))), (0, .ref (ga g (5))), (1, .int (iN (a))), (2, .int (iN (b)))] dX0_restsOn_1 rfl (by decide) rfl ?_
  refine V_iconst X dX0_restsOn_2 ?_
  refine V_istore X [(4, .int (iN (0))), (3, .int (iN (a))), (0, .ref (ga g (5))), (1, .int (iN (a))), (2, .int (iN (b)))] dX0_restsOn_3 (by decide) rfl ?_
  refine V_sub (lv' := [(0, .ref (ga g (5))), (1, .int (iN (a))), (2, .int (iN (b))), (3, .int (iN (a))), (4, .int (iN (0)))]) [2, 3, 4, 1, 0] rfl ?_
  refine V_up (N := 5) (fun (i : Nat) (u : St) (lw : List (Nat × Value)) => σ = u ∧ [(0, .ref (ga g (5))), (1, .int (iN (a))), (2, .int (iN (b))), (3, .int (iN (wkS (bsC σ) n b a i))), (4, .int (iN (((i : Nat) : Int))))] = lw ∧ (True)) (i0 := 0) (Nat.zero_le _) ⟨rfl, rfl, trivial⟩ ?_ ?_
  · skip
    rintro _ _ ⟨rfl, rfl, -⟩
    refine V_iload X 4 rfl dX0_restsOn_5 ?_
    refine V_iconst X dX0_restsOn_7 ?_
    refine V_icmp_ge X 40 ⟨by omega, by omega⟩ ⟨by decide, by decide⟩ dX0_restsOn_8 (by decide) (fun _ => ?_) (fun h => absurd h (by decide))
    refine V_iload_n X 3 rfl dX0_restsOn_40 rfl ?_
    refine V_iload_n X 2 rfl dX0_restsOn_41 rfl ?_
    refine V_icmp_ne X 49 (wkS_r hR ha _) hb dX0_restsOn_42 (by decide) (fun q1 => ?_) (fun q1 => ?_)
    · skip
      refine V_iconst X dX0_restsOn_49 ?_
      exact V_iret X hr (iN_bool (Or.inl rfl)).1 ⟨by decide, by decide⟩ (by exact ⟨by rw [if_neg (by omega)], rfl⟩) dX0_restsOn_50 (by decide) (by decide)
    · skip
      refine V_iconst X dX0_restsOn_45 ?_
      refine V_goto X 50 dX0_restsOn_46 (by decide) ?_
      exact V_iret X hr (iN_bool (Or.inr rfl)).1 ⟨by decide, by decide⟩ (by exact ⟨by rw [if_pos (by omega)], rfl⟩) dX0_restsOn_50 (by decide) (by decide)
  · skip
    rintro i _ _ hiN ⟨rfl, rfl, -⟩ kk
    refine V_iload X 4 rfl dX0_restsOn_5 ?_
    refine V_iconst X dX0_restsOn_7 ?_
    refine V_icmp_ge X 40 ⟨by omega, by omega⟩ ⟨by decide, by decide⟩ dX0_restsOn_8 (by decide) (fun h => absurd h (by omega)) (fun _ => ?_)
    refine V_aload_n X 0 rfl dX0_restsOn_11 rfl ?_
    refine V_iload_n X 3 rfl dX0_restsOn_12 rfl ?_
    refine V_callV_I X (na := 1) (ci := 0) (b0 := 5) (by decide) (rfl) (by decide) rfl (m_X0_has g l hl9 σ hR (wkS (bsC σ) n b a i) (wkS_r hR ha _)) gX0_restsOn_X0_has rfl rfl rfl (by decide +kernel) ⟨Nat.le_of_ble_eq_true rfl, Nat.le_of_ble_eq_true rfl⟩ rfl rfl (Nat.le_of_ble_eq_true rfl) ⟨Nat.le_of_ble_eq_true rfl, Nat.le_of_ble_eq_true rfl⟩ dX0_restsOn_13 (fun z2 u3 z2r hp4 => ?_)
    obtain ⟨hz9, hu5⟩ := hp4
    have hu5 := hu5.symm
    subst hu5
    rcases Classical.em (0 ≤ wkS (bsC σ) n b a i ∧ wkS (bsC σ) n b a i < σ.1 5 1) with hh | hh
    · skip
      rw [if_pos hh] at hz9
      subst hz9
      refine V_if_eq X 40 ⟨by decide, by decide⟩ dX0_restsOn_16 (by decide) (fun h => absurd h (by first | decide | omega)) (fun _ => ?_)
      refine V_iload_n X 3 rfl dX0_restsOn_19 rfl ?_
      refine V_iload_n X 2 rfl dX0_restsOn_20 rfl ?_
      refine V_icmp_eq X 40 (wkS_r hR ha _) hb dX0_restsOn_21 (by decide) (fun q6 => ?_) (fun q6 => ?_)
      · skip
        refine V_iload_n X 3 rfl dX0_restsOn_40 rfl ?_
        refine V_iload_n X 2 rfl dX0_restsOn_41 rfl ?_
        refine V_icmp_ne X 49 (wkS_r hR ha _) hb dX0_restsOn_42 (by decide) (fun q7 => ?_) (fun q7 => ?_)
        · skip
          refine V_iconst X dX0_restsOn_49 ?_
          exact V_iret X hr (iN_bool (Or.inl rfl)).1 ⟨by decide, by decide⟩ (by have e5 := wkS_stop5 (base := bsC σ) (n := n) (b := b) (a := a) (i := i) (by omega) (by omega); exact ⟨by rw [if_neg (by omega)], rfl⟩) dX0_restsOn_50 (by decide) (by decide)
        · skip
          refine V_iconst X dX0_restsOn_45 ?_
          refine V_goto X 50 dX0_restsOn_46 (by decide) ?_
          exact V_iret X hr (iN_bool (Or.inr rfl)).1 ⟨by decide, by decide⟩ (by have e5 := wkS_stop5 (base := bsC σ) (n := n) (b := b) (a := a) (i := i) (by omega) (by omega); exact ⟨by rw [if_pos (by omega)], rfl⟩) dX0_restsOn_50 (by decide) (by decide)
      · skip
        refine V_aload_n X 0 rfl dX0_restsOn_24 rfl ?_
        refine V_get X (ci := 0) (5) (by decide) (rfl) (by decide) rfl (fun _ h => List.mem_cons_of_mem _ (List.mem_append_left _ (List.mem_append_right _ h))) 0 (by decide) (List.mem_of_getElem? (i := 1) rfl) rfl rfl dX0_restsOn_25 ?_
        refine V_iload_n X 3 rfl dX0_restsOn_28 rfl ?_
        refine V_aald16 X (6) (by decide) (rfl) ((wkS (bsC σ) n b a i).toNat) (by omega) (by omega) dX0_restsOn_29 ?_
        refine V_get X (ci := 2) (7 + 2 * ((wkS (bsC σ) n b a i).toNat)) (by omega) (kd_lap (by omega)) (by decide) rfl (fun _ h => List.mem_cons_of_mem _ (List.mem_append_right _ h)) 10 (by decide) (List.mem_of_getElem? (i := 2) rfl) rfl rfl dX0_restsOn_30 ?_
        refine V_istore_n X [(3, .int (iN (σ.1 (7 + 2 * ((wkS (bsC σ) n b a i).toNat)) (10)))), (0, .ref (ga g (5))), (1, .int (iN (a))), (2, .int (iN (b))), (4, .int (iN (((i : Nat) : Int))))] dX0_restsOn_33 rfl (by decide) rfl ?_
        refine V_iinc X [(4, .int (iN (((i : Nat) : Int) + 1))), (3, .int (iN (σ.1 (7 + 2 * ((wkS (bsC σ) n b a i).toNat)) (10)))), (0, .ref (ga g (5))), (1, .int (iN (a))), (2, .int (iN (b)))] 4 (((i : Nat) : Int) + 1) (rfl) rfl dX0_restsOn_34 (by decide) rfl ?_
        refine V_goto X 5 dX0_restsOn_37 (by decide) ?_
        refine V_sub (lv' := [(0, .ref (ga g (5))), (1, .int (iN (a))), (2, .int (iN (b))), (3, .int (iN (σ.1 (7 + 2 * ((wkS (bsC σ) n b a i).toNat)) (10)))), (4, .int (iN (((i : Nat) : Int) + 1)))]) [2, 3, 4, 1, 0] rfl ?_
        refine V_lv (congrArg (fun q : Int => ([(0, .ref (ga g (5))), (1, .int (iN (a))), (2, .int (iN (b))), (3, .int (iN q)), (4, .int (iN (((i : Nat) : Int) + 1)))] : List (Nat × Value))) (show σ.1 (7 + 2 * ((wkS (bsC σ) n b a i).toNat)) (10) = wkS (bsC σ) n b a (i + 1) from by show _ = wkS _ _ _ _ (i + 1); rw [wkS, if_pos (by omega)]; rfl)) ?_
        refine V_lv (congrArg (fun q : Int => ([(0, .ref (ga g (5))), (1, .int (iN (a))), (2, .int (iN (b))), (3, .int (iN (wkS (bsC σ) n b a (i + 1)))), (4, .int (iN q))] : List (Nat × Value))) (show ((i : Nat) : Int) + 1 = (((i + 1) : Nat) : Int) from by omega)) ?_
        exact kk _ _ ⟨rfl, rfl, trivial⟩
    · skip
      rw [if_neg hh] at hz9
      subst hz9
      refine V_if_eq X 40 ⟨by decide, by decide⟩ dX0_restsOn_16 (by decide) (fun _ => ?_) (fun h => absurd h (by first | decide | omega))
      refine V_iload_n X 3 rfl dX0_restsOn_40 rfl ?_
      refine V_iload_n X 2 rfl dX0_restsOn_41 rfl ?_
      refine V_icmp_ne X 49 (wkS_r hR ha _) hb dX0_restsOn_42 (by decide) (fun q8 => ?_) (fun q8 => ?_)
      · skip
        refine V_iconst X dX0_restsOn_49 ?_
        exact V_iret X hr (iN_bool (Or.inl rfl)).1 ⟨by decide, by decide⟩ (by have e5 := wkS_stop5 (base := bsC σ) (n := n) (b := b) (a := a) (i := i) (by omega) (by omega); exact ⟨by rw [if_neg (by omega)], rfl⟩) dX0_restsOn_50 (by decide) (by decide)
      · skip
        refine V_iconst X dX0_restsOn_45 ?_
        refine V_goto X 50 dX0_restsOn_46 (by decide) ?_
        exact V_iret X hr (iN_bool (Or.inr rfl)).1 ⟨by decide, by decide⟩ (by have e5 := wkS_stop5 (base := bsC σ) (n := n) (b := b) (a := a) (i := i) (by omega) (by omega); exact ⟨by rw [if_pos (by omega)], rfl⟩) dX0_restsOn_50 (by decide) (by decide)
set_option maxRecDepth 100000 in
set_option maxHeartbeats 4000000 in
theorem m_X0_countResting (g : Geo) (l : Launch) (hl9 : l.stackTraces = false) (σ : St) (hR : RG σ) (n : Nat) (hn : σ.1 5 1 = (n : Int)) (hn30 : n ≤ 30) (j : Nat) (hj : j < n) : Met l yX0_countResting wsX0_countResting ({ frames := 2, cells := 0, slots := 0, locals := 45 }) (va_Pc [.ref (ga g (5)), .int (iN (((j : Nat) : Int)))] (World g σ)) (QI g (fun z u => z = sumF (fun l => if j < l ∧ wkS (bsC σ) n (j : Int) (l : Int) 5 = (j : Int) then 1 else 0) n ∧ u = σ)) 0 0 (gA g) := by
  refine V_met hl9 (by decide) rfl (Nat.le_of_ble_eq_true rfl) ?_
  intro p9 e9 s9 m9 b9 t9 c9 X hr _
  refine V_lv (lv' := [(0, .ref (ga g (5))), (1, .int (iN (((j : Nat) : Int))))]) rfl ?_
  refine V_iconst X dX0_countResting_0 ?_
  refine V_istore_n X [(2, .int (iN (0))), (0, .ref (ga g (5))), (1, .int (iN (((j : Nat) : Int))))] dX0_countResting_1 rfl (by decide) rfl ?_
  refine V_iload_n X 2 rfl dX0_countResting_2 rfl ?_
  refine V_iconst X dX0_countResting_3 ?_
  refine V_iadd X dX0_countResting_4 ?_
  refine V_top (b := (((j + 1) : Nat) : Int)) (by omega) ?_
  refine V_istore_n X [(3, .int (iN ((((j + 1) : Nat) : Int)))), (2, .int (iN (0))), (0, .ref (ga g (5))), (1, .int (iN (((j : Nat) : Int))))] dX0_countResting_5 rfl (by decide) rfl ?_
  refine V_sub (lv' := [(0, .ref (ga g (5))), (1, .int (iN (((j : Nat) : Int)))), (2, .int (iN (0))), (3, .int (iN ((((j + 1) : Nat) : Int))))]) [2, 3, 1, 0] rfl ?_
  refine V_lv (congrArg (fun q : Int => ([(0, .ref (ga g (5))), (1, .int (iN (((j : Nat) : Int)))), (2, .int (iN q)), (3, .int (iN ((((j + 1) : Nat) : Int))))] : List (Nat × Value))) (show 0 = sumF (fun l => if j < l ∧ wkS (bsC σ) n (j : Int) (l : Int) 5 = (j : Int) then 1 else 0) (j + 1) from (cr_0 (P := fun l => wkS (bsC σ) n (j : Int) (l : Int) 5 = (j : Int)) (j + 1) (Nat.le_refl _)).symm)) ?_
  refine V_up (N := n) (fun (i : Nat) (u : St) (lw : List (Nat × Value)) => σ = u ∧ [(0, .ref (ga g (5))), (1, .int (iN (((j : Nat) : Int)))), (2, .int (iN (sumF (fun l => if j < l ∧ wkS (bsC σ) n (j : Int) (l : Int) 5 = (j : Int) then 1 else 0) i))), (3, .int (iN (((i : Nat) : Int))))] = lw ∧ (j + 1 ≤ i ∧ 0 ≤ sumF (fun l => if j < l ∧ wkS (bsC σ) n (j : Int) (l : Int) 5 = (j : Int) then 1 else 0) i ∧ sumF (fun l => if j < l ∧ wkS (bsC σ) n (j : Int) (l : Int) 5 = (j : Int) then 1 else 0) i ≤ i)) (i0 := (j + 1)) (by omega) ⟨rfl, rfl, ⟨Nat.le_refl _, (cr_0 (P := fun l => wkS (bsC σ) n (j : Int) (l : Int) 5 = (j : Int)) (j + 1) (Nat.le_refl _)).symm ▸ ⟨Int.le_refl 0, by omega⟩⟩⟩ ?_ ?_
  · skip
    rintro _ _ ⟨rfl, rfl, hb⟩
    refine V_iload_n X 3 rfl dX0_countResting_6 rfl ?_
    refine V_aload_n X 0 rfl dX0_countResting_7 rfl ?_
    refine V_get X (ci := 0) (5) (by decide) (rfl) (by decide) rfl (fun _ h => List.mem_cons_of_mem _ (List.mem_append_left _ (List.mem_append_right _ h))) 1 (by decide) (List.mem_of_getElem? (i := 1) rfl) rfl rfl dX0_countResting_8 ?_
    refine V_icmp_ge X 32 ⟨by omega, by omega⟩ (hR _ _) dX0_countResting_11 (by decide) (fun _ => ?_) (fun h => absurd h (by omega))
    refine V_iload_n X 2 rfl dX0_countResting_32 rfl ?_
    exact V_iret X hr rfl ⟨by omega, by omega⟩ (by exact ⟨rfl, rfl⟩) dX0_countResting_33 (by decide) (by decide)
  · skip
    rintro i _ _ hiN ⟨rfl, rfl, hb⟩ kk
    refine V_iload_n X 3 rfl dX0_countResting_6 rfl ?_
    refine V_aload_n X 0 rfl dX0_countResting_7 rfl ?_
    refine V_get X (ci := 0) (5) (by decide) (rfl) (by decide) rfl (fun _ h => List.mem_cons_of_mem _ (List.mem_append_left _ (List.mem_append_right _ h))) 1 (by decide) (List.mem_of_getElem? (i := 1) rfl) rfl rfl dX0_countResting_8 ?_
    refine V_icmp_ge X 32 ⟨by omega, by omega⟩ (hR _ _) dX0_countResting_11 (by decide) (fun h => absurd h (by omega)) (fun _ => ?_)
    refine V_aload_n X 0 rfl dX0_countResting_14 rfl ?_
    refine V_iload_n X 3 rfl dX0_countResting_15 rfl ?_
    refine V_iload_n X 1 rfl dX0_countResting_16 rfl ?_
    refine V_callV_I X (na := 2) (ci := 0) (b0 := 5) (by decide) (rfl) (by decide) rfl (m_X0_restsOn g l hl9 σ hR n hn hn30 (i : Int) (j : Int) ⟨by omega, by omega⟩ ⟨by omega, by omega⟩) gX0_countResting_X0_restsOn rfl rfl rfl (by decide +kernel) ⟨Nat.le_of_ble_eq_true rfl, Nat.le_of_ble_eq_true rfl⟩ rfl rfl (Nat.le_of_ble_eq_true rfl) ⟨Nat.le_of_ble_eq_true rfl, Nat.le_of_ble_eq_true rfl⟩ dX0_countResting_17 (fun z1 u2 z1r hp3 => ?_)
    obtain ⟨hz9, hu4⟩ := hp3
    have hu4 := hu4.symm
    subst hu4
    rcases Classical.em (wkS (bsC σ) n (j : Int) (i : Int) 5 = (j : Int)) with hh | hh
    · skip
      rw [if_pos hh] at hz9
      subst hz9
      refine V_if_eq X 26 ⟨by decide, by decide⟩ dX0_countResting_20 (by decide) (fun h => absurd h (by first | decide | omega)) (fun _ => ?_)
      refine V_iinc X [(2, .int (iN (sumF (fun l => if j < l ∧ wkS (bsC σ) n (j : Int) (l : Int) 5 = (j : Int) then 1 else 0) i + 1))), (0, .ref (ga g (5))), (1, .int (iN (((j : Nat) : Int)))), (3, .int (iN (((i : Nat) : Int))))] 2 (sumF (fun l => if j < l ∧ wkS (bsC σ) n (j : Int) (l : Int) 5 = (j : Int) then 1 else 0) i + 1) (rfl) rfl dX0_countResting_23 (by decide) rfl ?_
      refine V_iinc X [(3, .int (iN (((i : Nat) : Int) + 1))), (2, .int (iN (sumF (fun l => if j < l ∧ wkS (bsC σ) n (j : Int) (l : Int) 5 = (j : Int) then 1 else 0) i + 1))), (0, .ref (ga g (5))), (1, .int (iN (((j : Nat) : Int))))] 3 (((i : Nat) : Int) + 1) (rfl) rfl dX0_countResting_26 (by decide) rfl ?_
      refine V_goto X 6 dX0_countResting_29 (by decide) ?_
      refine V_sub (lv' := [(0, .ref (ga g (5))), (1, .int (iN (((j : Nat) : Int)))), (2, .int (iN (sumF (fun l => if j < l ∧ wkS (bsC σ) n (j : Int) (l : Int) 5 = (j : Int) then 1 else 0) i + 1))), (3, .int (iN (((i : Nat) : Int) + 1)))]) [2, 3, 1, 0] rfl ?_
      refine V_lv (congrArg (fun q : Int => ([(0, .ref (ga g (5))), (1, .int (iN (((j : Nat) : Int)))), (2, .int (iN q)), (3, .int (iN (((i : Nat) : Int) + 1)))] : List (Nat × Value))) (show sumF (fun l => if j < l ∧ wkS (bsC σ) n (j : Int) (l : Int) 5 = (j : Int) then 1 else 0) i + 1 = sumF (fun l => if j < l ∧ wkS (bsC σ) n (j : Int) (l : Int) 5 = (j : Int) then 1 else 0) (i + 1) from by show _ = sumF _ i + (if _ then 1 else 0); rw [if_pos ⟨by omega, hh⟩])) ?_
      refine V_lv (congrArg (fun q : Int => ([(0, .ref (ga g (5))), (1, .int (iN (((j : Nat) : Int)))), (2, .int (iN (sumF (fun l => if j < l ∧ wkS (bsC σ) n (j : Int) (l : Int) 5 = (j : Int) then 1 else 0) (i + 1)))), (3, .int (iN q))] : List (Nat × Value))) (show ((i : Nat) : Int) + 1 = (((i + 1) : Nat) : Int) from by omega)) ?_
      exact kk _ _ ⟨rfl, rfl, ⟨by omega, sum01_b (fun l => by split <;> omega) hb.2⟩⟩
    · skip
      rw [if_neg hh] at hz9
      subst hz9
      refine V_if_eq X 26 ⟨by decide, by decide⟩ dX0_countResting_20 (by decide) (fun _ => ?_) (fun h => absurd h (by first | decide | omega))
      refine V_iinc X [(3, .int (iN (((i : Nat) : Int) + 1))), (0, .ref (ga g (5))), (1, .int (iN (((j : Nat) : Int)))), (2, .int (iN (sumF (fun l => if j < l ∧ wkS (bsC σ) n (j : Int) (l : Int) 5 = (j : Int) then 1 else 0) i)))] 3 (((i : Nat) : Int) + 1) (rfl) rfl dX0_countResting_26 (by decide) rfl ?_
      refine V_goto X 6 dX0_countResting_29 (by decide) ?_
      refine V_sub (lv' := [(0, .ref (ga g (5))), (1, .int (iN (((j : Nat) : Int)))), (2, .int (iN (sumF (fun l => if j < l ∧ wkS (bsC σ) n (j : Int) (l : Int) 5 = (j : Int) then 1 else 0) i))), (3, .int (iN (((i : Nat) : Int) + 1)))]) [1, 2, 3, 0] rfl ?_
      refine V_lv (congrArg (fun q : Int => ([(0, .ref (ga g (5))), (1, .int (iN (((j : Nat) : Int)))), (2, .int (iN q)), (3, .int (iN (((i : Nat) : Int) + 1)))] : List (Nat × Value))) (show sumF (fun l => if j < l ∧ wkS (bsC σ) n (j : Int) (l : Int) 5 = (j : Int) then 1 else 0) i = sumF (fun l => if j < l ∧ wkS (bsC σ) n (j : Int) (l : Int) 5 = (j : Int) then 1 else 0) (i + 1) from by show _ = sumF _ i + (if _ then 1 else 0); rw [if_neg (fun q => hh q.2)]; omega)) ?_
      refine V_lv (congrArg (fun q : Int => ([(0, .ref (ga g (5))), (1, .int (iN (((j : Nat) : Int)))), (2, .int (iN (sumF (fun l => if j < l ∧ wkS (bsC σ) n (j : Int) (l : Int) 5 = (j : Int) then 1 else 0) (i + 1)))), (3, .int (iN q))] : List (Nat × Value))) (show ((i : Nat) : Int) + 1 = (((i + 1) : Nat) : Int) from by omega)) ?_
      exact kk _ _ ⟨rfl, rfl, ⟨by omega, sum01_b (fun l => by split <;> omega) hb.2⟩⟩
set_option maxRecDepth 100000 in
set_option maxHeartbeats 4000000 in
theorem m_X0_add (g : Geo) (l : Launch) (hl9 : l.stackTraces = false) (σ : St) (hR : RG σ) (j : Nat) (hj : j < 30) (n : Nat) (hn : σ.1 5 1 = (n : Int)) (hn30 : n ≤ 30) (T : Nat) (hT : σ.1 (7 + 2 * j) 1 = (T : Int)) (hT60 : T ≤ 60) (hk : ∀ l, l < n → σ.1 (7 + 2 * l) 1 ≤ 60) : Met l yX0_add wsX0_add ({ frames := 2, cells := 0, slots := 0, locals := 45 }) (va_Pc [.ref (ga g (5)), .ref (ga g (7 + 2 * j))] (World g σ)) (QV g (fun u => u = addF σ n j (adB σ n j))) 0 0 (gA g) := by
  refine V_met hl9 (by decide) rfl (Nat.le_of_ble_eq_true rfl) ?_
  intro p9 e9 s9 m9 b9 t9 c9 X hr _
  refine V_lv (lv' := [(0, .ref (ga g (5))), (1, .ref (ga g (7 + 2 * j)))]) rfl ?_
  refine V_aload_n X 0 rfl dX0_add_0 rfl ?_
  refine V_aload_n X 1 rfl dX0_add_1 rfl ?_
  refine V_get X (ci := 2) (7 + 2 * j) (by omega) (kd_lap hj) (by decide) rfl (fun _ h => List.mem_cons_of_mem _ (List.mem_append_left _ (List.mem_append_right _ h))) 6 (by decide) (List.mem_of_getElem? (i := 1) rfl) rfl rfl dX0_add_2 ?_
  refine V_callV_I X (na := 1) (ci := 0) (b0 := 5) (by decide) (rfl) (by decide) rfl (m_X0_has g l hl9 (σ) (hR) (σ.1 (7 + 2 * j) 6) (hR _ _)) gX0_add_X0_has rfl rfl rfl (by decide +kernel) ⟨Nat.le_of_ble_eq_true rfl, Nat.le_of_ble_eq_true rfl⟩ rfl rfl (Nat.le_of_ble_eq_true rfl) ⟨Nat.le_of_ble_eq_true rfl, Nat.le_of_ble_eq_true rfl⟩ dX0_add_5 (fun z1 u2 z1r hp3 => ?_)
  obtain ⟨hz9, hu4⟩ := hp3
  have hu4 := hu4.symm
  subst hu4
  rcases Classical.em (0 ≤ σ.1 (7 + 2 * j) 6 ∧ σ.1 (7 + 2 * j) 6 < σ.1 5 1) with hh8 | hh8
  · skip
    rw [if_pos hh8] at hz9
    subst hz9
    refine V_if_eq X 27 ⟨by decide, by decide⟩ dX0_add_8 (by decide) (fun h => absurd h (by first | decide | omega)) (fun _ => ?_)
    refine V_aload_n X 0 rfl dX0_add_11 rfl ?_
    refine V_get X (ci := 0) (5) (by decide) (rfl) (by decide) rfl (fun _ h => List.mem_cons_of_mem _ (List.mem_append_right _ h)) 0 (by decide) (List.mem_of_getElem? (i := 2) rfl) rfl rfl dX0_add_12 ?_
    refine V_aload_n X 1 rfl dX0_add_15 rfl ?_
    refine V_get X (ci := 2) (7 + 2 * j) (by omega) (kd_lap hj) (by decide) rfl (fun _ h => List.mem_cons_of_mem _ (List.mem_append_left _ (List.mem_append_right _ h))) 6 (by decide) (List.mem_of_getElem? (i := 1) rfl) rfl rfl dX0_add_16 ?_
    refine V_aald16 X (6) (by decide) (rfl) ((σ.1 (7 + 2 * j) 6).toNat) (by omega) (by omega) dX0_add_19 ?_
    refine V_get X (ci := 2) (7 + 2 * ((σ.1 (7 + 2 * j) 6).toNat)) (by omega) (kd_lap (by omega)) (by decide) rfl (fun _ h => List.mem_cons_of_mem _ (List.mem_append_left _ (List.mem_append_right _ h))) 11 (by decide) (List.mem_of_getElem? (i := 3) rfl) rfl rfl dX0_add_20 ?_
    refine V_iconst X dX0_add_23 ?_
    refine V_icmp_lt X 31 (hR _ _) ⟨by decide, by decide⟩ dX0_add_24 (by decide) (fun q5 => ?_) (fun q5 => ?_)
    · skip
      refine V_iconst X dX0_add_31 ?_
      refine V_istore_n X [(2, .int (iN (0))), (0, .ref (ga g (5))), (1, .ref (ga g (7 + 2 * j)))] dX0_add_32 rfl (by decide) rfl ?_
      refine V_aload_n X 1 rfl dX0_add_33 rfl ?_
      refine V_aload_n X 2 rfl dX0_add_34 rfl ?_
      refine V_iload_n X 0 rfl dX0_add_35 rfl ?_
      refine V_if_eq X 43 ⟨by decide, by decide⟩ dX0_add_36 (by decide) (fun _ => ?_) (fun h => absurd h (by first | decide | omega))
      refine V_aload_n X 2 rfl dX0_add_43 rfl ?_
      refine V_get X (ci := 2) (7 + 2 * j) (by omega) (kd_lap hj) (by decide) rfl (fun _ h => List.mem_cons_of_mem _ (List.mem_append_left _ (List.mem_append_right _ h))) 6 (by decide) (List.mem_of_getElem? (i := 1) rfl) rfl rfl dX0_add_44 ?_
      refine V_callV_V X (na := 2) (ci := 0) (b0 := 5) (by decide) (rfl) (by decide) rfl (m_X0_store g l hl9 σ hR j hj (σ.1 (7 + 2 * j) (6)) (hR _ _) n hn hn30 T hT hT60 hk) gX0_add_X0_store rfl rfl rfl (by decide +kernel) ⟨Nat.le_of_ble_eq_true rfl, Nat.le_of_ble_eq_true rfl⟩ rfl rfl (Nat.le_of_ble_eq_true rfl) ⟨Nat.le_of_ble_eq_true rfl, Nat.le_of_ble_eq_true rfl⟩ dX0_add_47 (fun u7 hp8 => ?_)
      subst hp8
      have hst := stF_b (σ := σ) (n := n) (j := j) (b := σ.1 (7 + 2 * j) (6)) (by omega) (by omega)
      have hRa : RG (sw (sw σ (7 + 2 * j) 10 (σ.1 (7 + 2 * j) (6))) (7 + 2 * j) 12 (stF σ n j (σ.1 (7 + 2 * j) (6)))) := (hR.sw _ _ (hR _ _)).sw _ _ ⟨by omega, by omega⟩
      refine V_aload_n X 1 rfl dX0_add_50 rfl ?_
      refine V_aload_n X 2 rfl dX0_add_51 rfl ?_
      refine V_callV_V X (na := 1) (ci := 0) (b0 := 5) (by decide) (rfl) (by decide) rfl (m_X0_settleDepth g l hl9 _ hRa j hj n (by rw [rd_n (by omega), rd_n (by omega)]; exact hn) hn30) gX0_add_X0_settleDepth rfl rfl rfl (by decide +kernel) ⟨Nat.le_of_ble_eq_true rfl, Nat.le_of_ble_eq_true rfl⟩ rfl rfl (Nat.le_of_ble_eq_true rfl) ⟨Nat.le_of_ble_eq_true rfl, Nat.le_of_ble_eq_true rfl⟩ dX0_add_52 (fun u10 hp11 => ?_)
      rw [dpF_st] at hp11
      subst hp11
      refine V_aload_n X 1 rfl dX0_add_55 rfl ?_
      refine V_dup X rfl dX0_add_56 ?_
      refine V_get X (ci := 0) (5) (by decide) (rfl) (by decide) rfl (fun _ h => List.mem_cons_of_mem _ (List.mem_append_right _ h)) 1 (by decide) (List.mem_of_getElem? (i := 4) rfl) rfl rfl dX0_add_57 ?_
      refine V_top (b := σ.1 5 1) (Eq.trans (rd_k (by decide)) (Eq.trans (rd_k (by decide)) (rd_k (by decide)))) ?_
      refine V_iconst X dX0_add_60 ?_
      refine V_iadd X dX0_add_61 ?_
      refine V_put X (ci := 0) (5) (by decide) (rfl) (by decide) rfl (fun _ h => List.mem_cons_of_mem _ (List.mem_append_right _ h)) 1 (by decide) (List.mem_of_getElem? (i := 4) rfl) rfl tyX0 tyX0_ok nmX0 rfl rfl rfl rfl rfl (Nat.le_of_ble_eq_true rfl) dX0_add_62 ?_
      exact V_vret X hr (by have e9 : adB σ n j = σ.1 (7 + 2 * j) (6) := by { unfold adB; exact if_pos (by omega) }; show _ = addF _ _ _ _; rw [e9]; rfl) dX0_add_65 (by decide) (by decide)
    · skip
      refine V_iconst X dX0_add_27 ?_
      refine V_goto X 32 dX0_add_28 (by decide) ?_
      refine V_istore_n X [(2, .int (iN (1))), (0, .ref (ga g (5))), (1, .ref (ga g (7 + 2 * j)))] dX0_add_32 rfl (by decide) rfl ?_
      refine V_aload_n X 1 rfl dX0_add_33 rfl ?_
      refine V_aload_n X 2 rfl dX0_add_34 rfl ?_
      refine V_iload_n X 0 rfl dX0_add_35 rfl ?_
      refine V_if_eq X 43 ⟨by decide, by decide⟩ dX0_add_36 (by decide) (fun h => absurd h (by first | decide | omega)) (fun _ => ?_)
      refine V_iconst X dX0_add_39 ?_
      refine V_goto X 47 dX0_add_40 (by decide) ?_
      refine V_callV_V X (na := 2) (ci := 0) (b0 := 5) (by decide) (rfl) (by decide) rfl (m_X0_store g l hl9 σ hR j hj (-1) ⟨by decide, by decide⟩ n hn hn30 T hT hT60 hk) gX0_add_X0_store rfl rfl rfl (by decide +kernel) ⟨Nat.le_of_ble_eq_true rfl, Nat.le_of_ble_eq_true rfl⟩ rfl rfl (Nat.le_of_ble_eq_true rfl) ⟨Nat.le_of_ble_eq_true rfl, Nat.le_of_ble_eq_true rfl⟩ dX0_add_47 (fun u13 hp14 => ?_)
      subst hp14
      have hst := stF_b (σ := σ) (n := n) (j := j) (b := -1) (by omega) (by omega)
      have hRa : RG (sw (sw σ (7 + 2 * j) 10 (-1)) (7 + 2 * j) 12 (stF σ n j (-1))) := (hR.sw _ _ ⟨by decide, by decide⟩).sw _ _ ⟨by omega, by omega⟩
      refine V_aload_n X 1 rfl dX0_add_50 rfl ?_
      refine V_aload_n X 2 rfl dX0_add_51 rfl ?_
      refine V_callV_V X (na := 1) (ci := 0) (b0 := 5) (by decide) (rfl) (by decide) rfl (m_X0_settleDepth g l hl9 _ hRa j hj n (by rw [rd_n (by omega), rd_n (by omega)]; exact hn) hn30) gX0_add_X0_settleDepth rfl rfl rfl (by decide +kernel) ⟨Nat.le_of_ble_eq_true rfl, Nat.le_of_ble_eq_true rfl⟩ rfl rfl (Nat.le_of_ble_eq_true rfl) ⟨Nat.le_of_ble_eq_true rfl, Nat.le_of_ble_eq_true rfl⟩ dX0_add_52 (fun u16 hp17 => ?_)
      rw [dpF_st] at hp17
      subst hp17
      refine V_aload_n X 1 rfl dX0_add_55 rfl ?_
      refine V_dup X rfl dX0_add_56 ?_
      refine V_get X (ci := 0) (5) (by decide) (rfl) (by decide) rfl (fun _ h => List.mem_cons_of_mem _ (List.mem_append_right _ h)) 1 (by decide) (List.mem_of_getElem? (i := 4) rfl) rfl rfl dX0_add_57 ?_
      refine V_top (b := σ.1 5 1) (Eq.trans (rd_k (by decide)) (Eq.trans (rd_k (by decide)) (rd_k (by decide)))) ?_
      refine V_iconst X dX0_add_60 ?_
      refine V_iadd X dX0_add_61 ?_
      refine V_put X (ci := 0) (5) (by decide) (rfl) (by decide) rfl (fun _ h => List.mem_cons_of_mem _ (List.mem_append_right _ h)) 1 (by decide) (List.mem_of_getElem? (i := 4) rfl) rfl tyX0 tyX0_ok nmX0 rfl rfl rfl rfl rfl (Nat.le_of_ble_eq_true rfl) dX0_add_62 ?_
      exact V_vret X hr (by have e9 : adB σ n j = -1 := by { unfold adB; exact if_neg (by omega) }; show _ = addF _ _ _ _; rw [e9]; rfl) dX0_add_65 (by decide) (by decide)
  · skip
    rw [if_neg hh8] at hz9
    subst hz9
    refine V_if_eq X 27 ⟨by decide, by decide⟩ dX0_add_8 (by decide) (fun _ => ?_) (fun h => absurd h (by first | decide | omega))
    refine V_iconst X dX0_add_27 ?_
    refine V_goto X 32 dX0_add_28 (by decide) ?_
    refine V_istore_n X [(2, .int (iN (1))), (0, .ref (ga g (5))), (1, .ref (ga g (7 + 2 * j)))] dX0_add_32 rfl (by decide) rfl ?_
    refine V_aload_n X 1 rfl dX0_add_33 rfl ?_
    refine V_aload_n X 2 rfl dX0_add_34 rfl ?_
    refine V_iload_n X 0 rfl dX0_add_35 rfl ?_
    refine V_if_eq X 43 ⟨by decide, by decide⟩ dX0_add_36 (by decide) (fun h => absurd h (by first | decide | omega)) (fun _ => ?_)
    refine V_iconst X dX0_add_39 ?_
    refine V_goto X 47 dX0_add_40 (by decide) ?_
    refine V_callV_V X (na := 2) (ci := 0) (b0 := 5) (by decide) (rfl) (by decide) rfl (m_X0_store g l hl9 σ hR j hj (-1) ⟨by decide, by decide⟩ n hn hn30 T hT hT60 hk) gX0_add_X0_store rfl rfl rfl (by decide +kernel) ⟨Nat.le_of_ble_eq_true rfl, Nat.le_of_ble_eq_true rfl⟩ rfl rfl (Nat.le_of_ble_eq_true rfl) ⟨Nat.le_of_ble_eq_true rfl, Nat.le_of_ble_eq_true rfl⟩ dX0_add_47 (fun u19 hp20 => ?_)
    subst hp20
    have hst := stF_b (σ := σ) (n := n) (j := j) (b := -1) (by omega) (by omega)
    have hRa : RG (sw (sw σ (7 + 2 * j) 10 (-1)) (7 + 2 * j) 12 (stF σ n j (-1))) := (hR.sw _ _ ⟨by decide, by decide⟩).sw _ _ ⟨by omega, by omega⟩
    refine V_aload_n X 1 rfl dX0_add_50 rfl ?_
    refine V_aload_n X 2 rfl dX0_add_51 rfl ?_
    refine V_callV_V X (na := 1) (ci := 0) (b0 := 5) (by decide) (rfl) (by decide) rfl (m_X0_settleDepth g l hl9 _ hRa j hj n (by rw [rd_n (by omega), rd_n (by omega)]; exact hn) hn30) gX0_add_X0_settleDepth rfl rfl rfl (by decide +kernel) ⟨Nat.le_of_ble_eq_true rfl, Nat.le_of_ble_eq_true rfl⟩ rfl rfl (Nat.le_of_ble_eq_true rfl) ⟨Nat.le_of_ble_eq_true rfl, Nat.le_of_ble_eq_true rfl⟩ dX0_add_52 (fun u22 hp23 => ?_)
    rw [dpF_st] at hp23
    subst hp23
    refine V_aload_n X 1 rfl dX0_add_55 rfl ?_
    refine V_dup X rfl dX0_add_56 ?_
    refine V_get X (ci := 0) (5) (by decide) (rfl) (by decide) rfl (fun _ h => List.mem_cons_of_mem _ (List.mem_append_right _ h)) 1 (by decide) (List.mem_of_getElem? (i := 4) rfl) rfl rfl dX0_add_57 ?_
    refine V_top (b := σ.1 5 1) (Eq.trans (rd_k (by decide)) (Eq.trans (rd_k (by decide)) (rd_k (by decide)))) ?_
    refine V_iconst X dX0_add_60 ?_
    refine V_iadd X dX0_add_61 ?_
    refine V_put X (ci := 0) (5) (by decide) (rfl) (by decide) rfl (fun _ h => List.mem_cons_of_mem _ (List.mem_append_right _ h)) 1 (by decide) (List.mem_of_getElem? (i := 4) rfl) rfl tyX0 tyX0_ok nmX0 rfl rfl rfl rfl rfl (Nat.le_of_ble_eq_true rfl) dX0_add_62 ?_
    exact V_vret X hr (by have e9 : adB σ n j = -1 := by { unfold adB; exact if_neg (by omega) }; show _ = addF _ _ _ _; rw [e9]; rfl) dX0_add_65 (by decide) (by decide)
set_option maxRecDepth 100000 in
set_option maxHeartbeats 4000000 in
theorem m_X0_moveFrom (g : Geo) (l : Launch) (hl9 : l.stackTraces = false) (σ : St) (hR : RG σ) (n : Nat) (hLB : LB σ n) (lap b : Int) (hlap : R32 lap) (hb : R32 b) : Met l yX0_moveFrom wsX0_moveFrom ({ frames := 2, cells := 0, slots := 0, locals := 45 }) (va_Pc [.ref (ga g (5)), .int (iN (lap)), .int (iN (b))] (World g σ)) (QI g (fun z u => z = sumF (fun l => if σ.1 (7 + 2 * l) 10 = lap then 1 else 0) n ∧ u = mvF σ n lap b n)) 0 0 (gA g) := by
  refine V_met hl9 (by decide) rfl (Nat.le_of_ble_eq_true rfl) ?_
  intro p9 e9 s9 m9 b9 t9 c9 X hr _
  have hn := hLB.1
  have hn30 := hLB.2.1
  refine V_lv (lv' := [(0, .ref (ga g (5))), (1, .int (iN (lap))), (2, .int (iN (b)))]) rfl ?_
  refine V_iconst X dX0_moveFrom_0 ?_
  refine V_istore_n X [(3, .int (iN (0))), (0, .ref (ga g (5))), (1, .int (iN (lap))), (2, .int (iN (b)))] dX0_moveFrom_1 rfl (by decide) rfl ?_
  refine V_iconst X dX0_moveFrom_2 ?_
  refine V_istore X [(4, .int (iN (0))), (3, .int (iN (0))), (0, .ref (ga g (5))), (1, .int (iN (lap))), (2, .int (iN (b)))] dX0_moveFrom_3 (by decide) rfl ?_
  refine V_sub (lv' := [(0, .ref (ga g (5))), (1, .int (iN (lap))), (2, .int (iN (b))), (3, .int (iN (0))), (4, .int (iN (0)))]) [2, 3, 4, 1, 0] rfl ?_
  refine V_up (N := n) (fun (i : Nat) (u : St) (lw : List (Nat × Value)) => True ∧ [(0, .ref (ga g (5))), (1, .int (iN (lap))), (2, .int (iN (b))), (3, .int (iN (sumF (fun l => if σ.1 (7 + 2 * l) 10 = lap then 1 else 0) i))), (4, .int (iN (((i : Nat) : Int))))] = lw ∧ (u = mvF σ n lap b i ∧ RG u ∧ 0 ≤ sumF (fun l => if σ.1 (7 + 2 * l) 10 = lap then 1 else 0) i ∧ sumF (fun l => if σ.1 (7 + 2 * l) 10 = lap then 1 else 0) i ≤ i)) (i0 := 0) (Nat.zero_le _) ⟨trivial, rfl, ⟨rfl, hR, Int.le_refl 0, Int.le_refl 0⟩⟩ ?_ ?_
  · skip
    rintro u1 _ ⟨-, rfl, hv⟩
    refine V_iload X 4 rfl dX0_moveFrom_5 ?_
    refine V_aload_n X 0 rfl dX0_moveFrom_7 rfl ?_
    refine V_get X (ci := 0) (5) (by decide) (rfl) (by decide) rfl (fun _ h => List.mem_cons_of_mem _ (List.mem_append_left _ (List.mem_append_right _ h))) 1 (by decide) (List.mem_of_getElem? (i := 1) rfl) rfl rfl dX0_moveFrom_8 ?_
    refine V_top (b := σ.1 5 1) (by rw [hv.1]; exact mvF_o (Or.inl (fun l hl => by omega)) _ (by omega)) ?_
    refine V_icmp_ge X 60 ⟨by omega, by omega⟩ (hR _ _) dX0_moveFrom_11 (by decide) (fun _ => ?_) (fun h => absurd h (by omega))
    refine V_iload_n X 3 rfl dX0_moveFrom_60 rfl ?_
    exact V_iret X hr rfl ⟨by omega, by omega⟩ (by exact ⟨rfl, hv.1⟩) dX0_moveFrom_61 (by decide) (by decide)
  · skip
    rintro i u1 _ hiN ⟨-, rfl, hv⟩ kk
    refine V_iload X 4 rfl dX0_moveFrom_5 ?_
    refine V_aload_n X 0 rfl dX0_moveFrom_7 rfl ?_
    refine V_get X (ci := 0) (5) (by decide) (rfl) (by decide) rfl (fun _ h => List.mem_cons_of_mem _ (List.mem_append_left _ (List.mem_append_right _ h))) 1 (by decide) (List.mem_of_getElem? (i := 1) rfl) rfl rfl dX0_moveFrom_8 ?_
    refine V_top (b := σ.1 5 1) (by rw [hv.1]; exact mvF_o (Or.inl (fun l hl => by omega)) _ (by omega)) ?_
    refine V_icmp_ge X 60 ⟨by omega, by omega⟩ (hR _ _) dX0_moveFrom_11 (by decide) (fun h => absurd h (by omega)) (fun _ => ?_)
    refine V_aload_n X 0 rfl dX0_moveFrom_14 rfl ?_
    refine V_get X (ci := 0) (5) (by decide) (rfl) (by decide) rfl (fun _ h => List.mem_cons_of_mem _ (List.mem_append_left _ (List.mem_append_right _ h))) 0 (by decide) (List.mem_of_getElem? (i := 2) rfl) rfl rfl dX0_moveFrom_15 ?_
    refine V_iload X 4 rfl dX0_moveFrom_18 ?_
    refine V_aald16 X (6) (by decide) (rfl) (i) (rfl) (by omega) dX0_moveFrom_20 ?_
    refine V_get X (ci := 2) (7 + 2 * i) (by omega) (kd_lap (by omega)) (by decide) rfl (fun _ h => List.mem_cons_of_mem _ (List.mem_append_right _ h)) 10 (by decide) (List.mem_of_getElem? (i := 3) rfl) rfl rfl dX0_moveFrom_21 ?_
    refine V_top (b := σ.1 (7 + 2 * i) 10) (by rw [hv.1]; exact mvF_base i (Nat.le_refl _) _) ?_
    refine V_iload_n X 1 rfl dX0_moveFrom_24 rfl ?_
    refine V_icmp_ne X 43 (hR _ _) hlap dX0_moveFrom_25 (by decide) (fun q1 => ?_) (fun q1 => ?_)
    · skip
      refine V_aload_n X 0 rfl dX0_moveFrom_43 rfl ?_
      refine V_aload_n X 0 rfl dX0_moveFrom_44 rfl ?_
      refine V_get X (ci := 0) (5) (by decide) (rfl) (by decide) rfl (fun _ h => List.mem_cons_of_mem _ (List.mem_append_left _ (List.mem_append_right _ h))) 0 (by decide) (List.mem_of_getElem? (i := 2) rfl) rfl rfl dX0_moveFrom_45 ?_
      refine V_iload X 4 rfl dX0_moveFrom_48 ?_
      refine V_aald16 X (6) (by decide) (rfl) (i) (rfl) (by omega) dX0_moveFrom_50 ?_
      have hnu : u1.1 5 1 = (n : Int) := by rw [hv.1, mvF_o (Or.inl (fun l hl => by omega)) _ (by omega)]; exact hn
      refine V_callV_V X (na := 1) (ci := 0) (b0 := 5) (by decide) (rfl) (by decide) rfl (m_X0_settleDepth g l hl9 u1 hv.2.1 i (by omega) n (hnu) hn30) gX0_moveFrom_X0_settleDepth rfl rfl rfl (by decide +kernel) ⟨Nat.le_of_ble_eq_true rfl, Nat.le_of_ble_eq_true rfl⟩ rfl rfl (Nat.le_of_ble_eq_true rfl) ⟨Nat.le_of_ble_eq_true rfl, Nat.le_of_ble_eq_true rfl⟩ dX0_moveFrom_51 (fun u3 hp4 => ?_)
      have hq : u1.1 (7 + 2 * i) 10 = σ.1 (7 + 2 * i) 10 := by rw [hv.1]; exact mvF_base i (Nat.le_refl _) _
      have hu2 : u3 = mvF σ n lap b (i + 1) := by rw [mvF, ← hv.1, if_neg (by omega)]; exact hp4
      refine V_iinc X [(4, .int (iN (((i : Nat) : Int) + 1))), (0, .ref (ga g (5))), (1, .int (iN (lap))), (2, .int (iN (b))), (3, .int (iN (sumF (fun l => if σ.1 (7 + 2 * l) 10 = lap then 1 else 0) i)))] 4 (((i : Nat) : Int) + 1) (rfl) rfl dX0_moveFrom_54 (by decide) rfl ?_
      refine V_goto X 5 dX0_moveFrom_57 (by decide) ?_
      refine V_sub (lv' := [(0, .ref (ga g (5))), (1, .int (iN (lap))), (2, .int (iN (b))), (3, .int (iN (sumF (fun l => if σ.1 (7 + 2 * l) 10 = lap then 1 else 0) i))), (4, .int (iN (((i : Nat) : Int) + 1)))]) [1, 2, 3, 4, 0] rfl ?_
      refine V_lv (congrArg (fun q : Int => ([(0, .ref (ga g (5))), (1, .int (iN (lap))), (2, .int (iN (b))), (3, .int (iN q)), (4, .int (iN (((i : Nat) : Int) + 1)))] : List (Nat × Value))) (show sumF (fun l => if σ.1 (7 + 2 * l) 10 = lap then 1 else 0) i = sumF (fun l => if σ.1 (7 + 2 * l) 10 = lap then 1 else 0) (i + 1) from by show _ = sumF _ i + (if _ then 1 else 0); rw [if_neg (by omega)]; omega)) ?_
      refine V_lv (congrArg (fun q : Int => ([(0, .ref (ga g (5))), (1, .int (iN (lap))), (2, .int (iN (b))), (3, .int (iN (sumF (fun l => if σ.1 (7 + 2 * l) 10 = lap then 1 else 0) (i + 1)))), (4, .int (iN q))] : List (Nat × Value))) (show ((i : Nat) : Int) + 1 = (((i + 1) : Nat) : Int) from by omega)) ?_
      exact kk _ _ ⟨trivial, rfl, ⟨hu2, hu2 ▸ (mvF_b hR hLB hb (i + 1) (by omega)).1, sum01_b (fun l => by split <;> omega) hv.2.2⟩⟩
    · skip
      refine V_aload_n X 0 rfl dX0_moveFrom_28 rfl ?_
      refine V_aload_n X 0 rfl dX0_moveFrom_29 rfl ?_
      refine V_get X (ci := 0) (5) (by decide) (rfl) (by decide) rfl (fun _ h => List.mem_cons_of_mem _ (List.mem_append_left _ (List.mem_append_right _ h))) 0 (by decide) (List.mem_of_getElem? (i := 2) rfl) rfl rfl dX0_moveFrom_30 ?_
      refine V_iload X 4 rfl dX0_moveFrom_33 ?_
      refine V_aald16 X (6) (by decide) (rfl) (i) (rfl) (by omega) dX0_moveFrom_35 ?_
      refine V_iload_n X 2 rfl dX0_moveFrom_36 rfl ?_
      have hti : u1.1 (7 + 2 * i) 1 = σ.1 (7 + 2 * i) 1 := by rw [hv.1]; exact mvF_o (Or.inr ⟨by decide, by decide, by decide⟩) _ (by omega)
      have hrow := hLB.2.2 i hiN
      have hnu : u1.1 5 1 = (n : Int) := by rw [hv.1, mvF_o (Or.inl (fun l hl => by omega)) _ (by omega)]; exact hn
      obtain ⟨T, hT⟩ : ∃ T : Nat, σ.1 (7 + 2 * i) 1 = (T : Int) := ⟨(σ.1 (7 + 2 * i) 1).toNat, by have := hrow.1; omega⟩
      have hT60 : T ≤ 60 := by have := hrow.2.1; omega
      refine V_callV_V X (na := 2) (ci := 0) (b0 := 5) (by decide) (rfl) (by decide) rfl (m_X0_store g l hl9 u1 hv.2.1 i (by omega) b hb n hnu hn30 T (hti.trans hT) hT60 (fun l hl => by rw [hv.1, mvF_o (Or.inr ⟨by decide, by decide, by decide⟩) _ (by omega)]; exact (hLB.2.2 l hl).2.1)) gX0_moveFrom_X0_store rfl rfl rfl (by decide +kernel) ⟨Nat.le_of_ble_eq_true rfl, Nat.le_of_ble_eq_true rfl⟩ rfl rfl (Nat.le_of_ble_eq_true rfl) ⟨Nat.le_of_ble_eq_true rfl, Nat.le_of_ble_eq_true rfl⟩ dX0_moveFrom_37 (fun u6 hp7 => ?_)
      have hst := stF_b (σ := u1) (n := n) (j := i) (b := b) (by omega) (by omega)
      have hRa : RG (sw (sw u1 (7 + 2 * i) 10 b) (7 + 2 * i) 12 (stF u1 n i b)) := (hv.2.1.sw _ _ hb).sw _ _ ⟨by omega, by omega⟩
      subst hp7
      refine V_iinc X [(3, .int (iN (sumF (fun l => if σ.1 (7 + 2 * l) 10 = lap then 1 else 0) i + 1))), (0, .ref (ga g (5))), (1, .int (iN (lap))), (2, .int (iN (b))), (4, .int (iN (((i : Nat) : Int))))] 3 (sumF (fun l => if σ.1 (7 + 2 * l) 10 = lap then 1 else 0) i + 1) (rfl) rfl dX0_moveFrom_40 (by decide) rfl ?_
      refine V_aload_n X 1 rfl dX0_moveFrom_43 rfl ?_
      refine V_aload_n X 1 rfl dX0_moveFrom_44 rfl ?_
      refine V_get X (ci := 0) (5) (by decide) (rfl) (by decide) rfl (fun _ h => List.mem_cons_of_mem _ (List.mem_append_left _ (List.mem_append_right _ h))) 0 (by decide) (List.mem_of_getElem? (i := 2) rfl) rfl rfl dX0_moveFrom_45 ?_
      refine V_iload X 4 rfl dX0_moveFrom_48 ?_
      refine V_aald16 X (6) (by decide) (rfl) (i) (rfl) (by omega) dX0_moveFrom_50 ?_
      refine V_callV_V X (na := 1) (ci := 0) (b0 := 5) (by decide) (rfl) (by decide) rfl (m_X0_settleDepth g l hl9 (sw (sw u1 (7 + 2 * i) 10 b) (7 + 2 * i) 12 (stF u1 n i b)) hRa i (by omega) n (by rw [rd_n (by omega), rd_n (by omega)]; exact hnu) hn30) gX0_moveFrom_X0_settleDepth rfl rfl rfl (by decide +kernel) ⟨Nat.le_of_ble_eq_true rfl, Nat.le_of_ble_eq_true rfl⟩ rfl rfl (Nat.le_of_ble_eq_true rfl) ⟨Nat.le_of_ble_eq_true rfl, Nat.le_of_ble_eq_true rfl⟩ dX0_moveFrom_51 (fun u9 hp10 => ?_)
      have hq : u1.1 (7 + 2 * i) 10 = σ.1 (7 + 2 * i) 10 := by rw [hv.1]; exact mvF_base i (Nat.le_refl _) _
      have hu2 : u9 = mvF σ n lap b (i + 1) := by rw [mvF, ← hv.1, if_pos (by omega)]; exact hp10
      refine V_iinc X [(4, .int (iN (((i : Nat) : Int) + 1))), (3, .int (iN (sumF (fun l => if σ.1 (7 + 2 * l) 10 = lap then 1 else 0) i + 1))), (0, .ref (ga g (5))), (1, .int (iN (lap))), (2, .int (iN (b)))] 4 (((i : Nat) : Int) + 1) (rfl) rfl dX0_moveFrom_54 (by decide) rfl ?_
      refine V_goto X 5 dX0_moveFrom_57 (by decide) ?_
      refine V_sub (lv' := [(0, .ref (ga g (5))), (1, .int (iN (lap))), (2, .int (iN (b))), (3, .int (iN (sumF (fun l => if σ.1 (7 + 2 * l) 10 = lap then 1 else 0) i + 1))), (4, .int (iN (((i : Nat) : Int) + 1)))]) [2, 3, 4, 1, 0] rfl ?_
      refine V_lv (congrArg (fun q : Int => ([(0, .ref (ga g (5))), (1, .int (iN (lap))), (2, .int (iN (b))), (3, .int (iN q)), (4, .int (iN (((i : Nat) : Int) + 1)))] : List (Nat × Value))) (show sumF (fun l => if σ.1 (7 + 2 * l) 10 = lap then 1 else 0) i + 1 = sumF (fun l => if σ.1 (7 + 2 * l) 10 = lap then 1 else 0) (i + 1) from by show _ = sumF _ i + (if _ then 1 else 0); rw [if_pos (by omega)])) ?_
      refine V_lv (congrArg (fun q : Int => ([(0, .ref (ga g (5))), (1, .int (iN (lap))), (2, .int (iN (b))), (3, .int (iN (sumF (fun l => if σ.1 (7 + 2 * l) 10 = lap then 1 else 0) (i + 1)))), (4, .int (iN q))] : List (Nat × Value))) (show ((i : Nat) : Int) + 1 = (((i + 1) : Nat) : Int) from by omega)) ?_
      exact kk _ _ ⟨trivial, rfl, ⟨hu2, hu2 ▸ (mvF_b hR hLB hb (i + 1) (by omega)).1, sum01_b (fun l => by split <;> omega) hv.2.2⟩⟩
