/-! ===== the book ===== -/
def LR (r : Nat → Int) : Prop := 0 ≤ r 1 ∧ r 1 ≤ 60 ∧ 0 ≤ r 2 ∧ r 2 ≤ 1000000 ∧ 0 ≤ r 8 ∧ r 8 ≤ 9999 ∧ (r 9 = 0 ∨ r 9 = 1) ∧ -1 ≤ r 10 ∧ r 10 < 30 ∧ 0 ≤ r 3 ∧ r 3 < 6 ∧ 0 ≤ r 11 ∧ r 11 ≤ 30
/-- the laps' rows as the book's methods need them -/
def LB (σ : St) (n : Nat) : Prop := σ.1 5 1 = (n : Int) ∧ n ≤ 30 ∧ ∀ l, l < n → LR (σ.1 (7 + 2 * l))
def cntC (σ : St) (l : Nat) : Int := σ.1 (7 + 2 * l) 2 + σ.1 (7 + 2 * l) 8
theorem LB.cnt {σ : St} {n l : Nat} (h : LB σ n) (hl : l < n) : 0 ≤ cntC σ l ∧ cntC σ l ≤ 1009999 := by
  obtain ⟨h1, h2, h3, h4, h5, h6, -⟩ := h.2.2 l hl
  unfold cntC
  omega
theorem if1_t {P : Prop} [Decidable P] {z : Int} (h : z = if P then 1 else 0) (q : ¬ z = 0) : P := by
  by_cases p : P
  · exact p
  · rw [if_neg p] at h; exact absurd h q
theorem if1_f {P : Prop} [Decidable P] {z : Int} (h : z = if P then 1 else 0) (q : z = 0) : ¬ P := by
  intro p
  rw [if_pos p] at h; omega
theorem if1_b {P : Prop} [Decidable P] : (if P then (1 : Int) else 0) = 0 ∨ (if P then (1 : Int) else 0) = 1 := by
  by_cases p : P
  · exact Or.inr (if_pos p)
  · exact Or.inl (if_neg p)
def stF (σ : St) (n j : Nat) (b : Int) : Int := if 0 ≤ b ∧ b < n then unlF (σ.1 (7 + 2 * j + 1)) (σ.1 (7 + 2 * b.toNat + 1)) (σ.1 (7 + 2 * b.toNat) 1) (σ.1 (7 + 2 * j) 1).toNat else σ.1 (7 + 2 * j) 1
def dpF (σ : St) (n j : Nat) : Int := if 0 ≤ σ.1 (7 + 2 * j) 10 ∧ σ.1 (7 + 2 * j) 10 < n then σ.1 (7 + 2 * (σ.1 (7 + 2 * j) 10).toNat) 11 + 1 else 0
/-- ahead: a lap that is, before one that isn't, or counting with less, or as much with a lower number -/
def ahd (cnt : Nat → Int) (n : Nat) (a b : Int) : Prop := (0 ≤ a ∧ a < n) ∧ (¬ (0 ≤ b ∧ b < n) ∨ cnt a.toNat < cnt b.toNat ∨ (cnt a.toNat = cnt b.toNat ∧ a < b))
def wkF (base : Nat → Int) (n : Nat) (b : Int) : Nat → Int → Int
  | 0, m => m
  | d + 1, m => if (0 ≤ m ∧ m < n) ∧ ¬ m = b then wkF base n b d (base m.toNat) else m
def rsC (base : Nat → Int) (n : Nat) (a b : Int) : Prop := wkF base n b 5 a = b

theorem sum01_b {f : Nat → Int} {i : Nat} (hf : ∀ l, 0 ≤ f l ∧ f l ≤ 1) (h : 0 ≤ sumF f i ∧ sumF f i ≤ i) : 0 ≤ sumF f (i + 1) ∧ sumF f (i + 1) ≤ ((i + 1 : Nat) : Int) := by
  have e : sumF f (i + 1) = sumF f i + f i := rfl
  have := hf i
  rw [e]
  omega

theorem bestF_b {sel : Nat → Bool} {cnt : Nat → Int} : ∀ n : Nat, -1 ≤ bestF sel cnt n ∧ bestF sel cnt n < n := by
  intro n
  induction n with
  | zero => simp [bestF]
  | succ n ih =>
    rw [bestF]
    split <;> omega
theorem best_0 {sel : Nat → Bool} {cnt : Nat → Int} {i : Nat} (h : sel i = false) : bestF sel cnt i = bestF sel cnt (i + 1) := by
  rw [bestF, if_neg (by simp [h])]
theorem best_y {sel : Nat → Bool} {cnt : Nat → Int} {i n : Nat} (h : sel i = true) (ha : ahd cnt n ((i : Nat) : Int) (bestF sel cnt i)) (hn : i < n) : ((i : Nat) : Int) = bestF sel cnt (i + 1) := by
  have hb := bestF_b (sel := sel) (cnt := cnt) i
  have hc : bestF sel cnt i = -1 ∨ cnt i < cnt (bestF sel cnt i).toNat := by
    rcases ha.2 with a | a | a
    · exact Or.inl (by omega)
    · exact Or.inr (by simpa using a)
    · omega
  rw [bestF, if_pos ⟨h, hc⟩]
theorem best_n {sel : Nat → Bool} {cnt : Nat → Int} {i n : Nat} (ha : ¬ ahd cnt n ((i : Nat) : Int) (bestF sel cnt i)) (hn : i < n) : bestF sel cnt i = bestF sel cnt (i + 1) := by
  have hb := bestF_b (sel := sel) (cnt := cnt) i
  rw [bestF, if_neg]
  rintro ⟨-, h⟩
  refine ha ⟨by omega, ?_⟩
  rcases h with h | h
  · exact Or.inl (by omega)
  · exact Or.inr (Or.inl (by simpa using h))

set_option maxRecDepth 100000 in
set_option maxHeartbeats 4000000 in
theorem m_X0_has (g : Geo) (l : Launch) (hl9 : l.stackTraces = false) (σ : St) (hR : RG σ) (a : Int) (ha : R32 a) : Met l yX0_has wsX0_has ({ frames := 0, cells := 0, slots := 0, locals := 0 }) (va_Pc [.ref (ga g (5)), .int (iN (a))] (World g σ)) (QI g (fun z u => z = (if 0 ≤ a ∧ a < σ.1 5 1 then 1 else 0) ∧ u = σ)) 0 0 (gA g) := by
  refine V_met hl9 (by decide) rfl (Nat.le_of_ble_eq_true rfl) ?_
  intro p9 e9 s9 m9 b9 t9 c9 X hr _
  refine V_lv (lv' := [(0, .ref (ga g (5))), (1, .int (iN (a)))]) rfl ?_
  refine V_iload_n X 1 rfl dX0_has_0 rfl ?_
  refine V_if_lt X 16 ha dX0_has_1 (by decide) (fun q1 => ?_) (fun q1 => ?_)
  · skip
    refine V_iconst X dX0_has_16 ?_
    exact V_iret X hr (iN_bool (Or.inl rfl)).1 ⟨by decide, by decide⟩ (by exact ⟨by first | rw [if_pos (by omega)] | rw [if_neg (by omega)], rfl⟩) dX0_has_17 (by decide) (by decide)
  · skip
    refine V_iload_n X 1 rfl dX0_has_4 rfl ?_
    refine V_aload_n X 0 rfl dX0_has_5 rfl ?_
    refine V_get X (ci := 0) (5) (by decide) (rfl) (by decide) rfl (fun _ h => List.mem_cons_of_mem _ (List.mem_append_right _ h)) 1 (by decide) (List.mem_of_getElem? (i := 1) rfl) rfl rfl dX0_has_6 ?_
    refine V_icmp_ge X 16 ha (hR _ _) dX0_has_9 (by decide) (fun q2 => ?_) (fun q2 => ?_)
    · skip
      refine V_iconst X dX0_has_16 ?_
      exact V_iret X hr (iN_bool (Or.inl rfl)).1 ⟨by decide, by decide⟩ (by exact ⟨by first | rw [if_pos (by omega)] | rw [if_neg (by omega)], rfl⟩) dX0_has_17 (by decide) (by decide)
    · skip
      refine V_iconst X dX0_has_12 ?_
      refine V_goto X 17 dX0_has_13 (by decide) ?_
      exact V_iret X hr (iN_bool (Or.inr rfl)).1 ⟨by decide, by decide⟩ (by exact ⟨by first | rw [if_pos (by omega)] | rw [if_neg (by omega)], rfl⟩) dX0_has_17 (by decide) (by decide)
set_option maxRecDepth 100000 in
set_option maxHeartbeats 4000000 in
theorem m_X0_hasGhost (g : Geo) (l : Launch) (hl9 : l.stackTraces = false) (σ : St) (hR : RG σ) (a tr : Int) (ha : R32 a) (htr : R32 tr) (hn30 : σ.1 5 1 ≤ 30) : Met l yX0_hasGhost wsX0_hasGhost ({ frames := 1, cells := 0, slots := 0, locals := 21 }) (va_Pc [.ref (ga g (5)), .int (iN (a)), .int (iN (tr))] (World g σ)) (QI g (fun z u => z = (if (0 ≤ a ∧ a < σ.1 5 1) ∧ σ.1 (7 + 2 * a.toNat) 4 = tr ∧ ¬ σ.1 (7 + 2 * a.toNat) 9 = 0 then 1 else 0) ∧ u = σ)) 0 0 (gA g) := by
  refine V_met hl9 (by decide) rfl (Nat.le_of_ble_eq_true rfl) ?_
  intro p9 e9 s9 m9 b9 t9 c9 X hr _
  refine V_lv (lv' := [(0, .ref (ga g (5))), (1, .int (iN (a))), (2, .int (iN (tr)))]) rfl ?_
  refine V_aload_n X 0 rfl dX0_hasGhost_0 rfl ?_
  refine V_iload_n X 1 rfl dX0_hasGhost_1 rfl ?_
  refine V_callV_I X (na := 1) (ci := 0) (b0 := 5) (by decide) (rfl) (by decide) rfl (m_X0_has g l hl9 (σ) (hR) (a) (ha)) gX0_hasGhost_X0_has rfl rfl rfl (by decide +kernel) ⟨Nat.le_of_ble_eq_true rfl, Nat.le_of_ble_eq_true rfl⟩ rfl rfl (Nat.le_of_ble_eq_true rfl) ⟨Nat.le_of_ble_eq_true rfl, Nat.le_of_ble_eq_true rfl⟩ dX0_hasGhost_2 (fun z1 u2 z1r hp3 => ?_)
  obtain ⟨hz9, hu4⟩ := hp3
  have hu4 := hu4.symm
  subst hu4
  rcases Classical.em (0 ≤ a ∧ a < σ.1 5 1) with hh5 | hh5
  · skip
    rw [if_pos hh5] at hz9
    subst hz9
    refine V_if_eq X 37 ⟨by decide, by decide⟩ dX0_hasGhost_5 (by decide) (fun h => absurd h (by first | decide | omega)) (fun _ => ?_)
    refine V_aload_n X 0 rfl dX0_hasGhost_8 rfl ?_
    refine V_get X (ci := 0) (5) (by decide) (rfl) (by decide) rfl (fun _ h => List.mem_cons_of_mem _ (List.mem_append_left _ (List.mem_append_right _ h))) 0 (by decide) (List.mem_of_getElem? (i := 1) rfl) rfl rfl dX0_hasGhost_9 ?_
    refine V_iload_n X 1 rfl dX0_hasGhost_12 rfl ?_
    refine V_aald16 X (6) (by decide) (rfl) (a.toNat) (by omega) (by omega) dX0_hasGhost_13 ?_
    refine V_get X (ci := 2) (7 + 2 * (a.toNat)) (by omega) (kd_lap (by omega)) (by decide) rfl (fun _ h => List.mem_cons_of_mem _ (List.mem_append_right _ h)) 4 (by decide) (List.mem_of_getElem? (i := 2) rfl) rfl rfl dX0_hasGhost_14 ?_
    refine V_iload_n X 2 rfl dX0_hasGhost_17 rfl ?_
    refine V_icmp_ne X 37 (hR _ _) htr dX0_hasGhost_18 (by decide) (fun q5 => ?_) (fun q5 => ?_)
    · skip
      refine V_iconst X dX0_hasGhost_37 ?_
      exact V_iret X hr (iN_bool (Or.inl rfl)).1 ⟨by decide, by decide⟩ (by exact ⟨by rw [if_neg (by omega)], rfl⟩) dX0_hasGhost_38 (by decide) (by decide)
    · skip
      refine V_aload_n X 0 rfl dX0_hasGhost_21 rfl ?_
      refine V_get X (ci := 0) (5) (by decide) (rfl) (by decide) rfl (fun _ h => List.mem_cons_of_mem _ (List.mem_append_left _ (List.mem_append_right _ h))) 0 (by decide) (List.mem_of_getElem? (i := 1) rfl) rfl rfl dX0_hasGhost_22 ?_
      refine V_iload_n X 1 rfl dX0_hasGhost_25 rfl ?_
      refine V_aald16 X (6) (by decide) (rfl) (a.toNat) (by omega) (by omega) dX0_hasGhost_26 ?_
      refine V_get X (ci := 2) (7 + 2 * (a.toNat)) (by omega) (kd_lap (by omega)) (by decide) rfl (fun _ h => List.mem_cons_of_mem _ (List.mem_append_right _ h)) 9 (by decide) (List.mem_of_getElem? (i := 3) rfl) rfl rfl dX0_hasGhost_27 ?_
      refine V_if_eq X 37 (hR _ _) dX0_hasGhost_30 (by decide) (fun q6 => ?_) (fun q6 => ?_)
      · skip
        refine V_iconst X dX0_hasGhost_37 ?_
        exact V_iret X hr (iN_bool (Or.inl rfl)).1 ⟨by decide, by decide⟩ (by exact ⟨by rw [if_neg (by omega)], rfl⟩) dX0_hasGhost_38 (by decide) (by decide)
      · skip
        refine V_iconst X dX0_hasGhost_33 ?_
        refine V_goto X 38 dX0_hasGhost_34 (by decide) ?_
        exact V_iret X hr (iN_bool (Or.inr rfl)).1 ⟨by decide, by decide⟩ (by exact ⟨by rw [if_pos (by omega)], rfl⟩) dX0_hasGhost_38 (by decide) (by decide)
  · skip
    rw [if_neg hh5] at hz9
    subst hz9
    refine V_if_eq X 37 ⟨by decide, by decide⟩ dX0_hasGhost_5 (by decide) (fun _ => ?_) (fun h => absurd h (by first | decide | omega))
    refine V_iconst X dX0_hasGhost_37 ?_
    exact V_iret X hr (iN_bool (Or.inl rfl)).1 ⟨by decide, by decide⟩ (by exact ⟨by rw [if_neg (by omega)], rfl⟩) dX0_hasGhost_38 (by decide) (by decide)
set_option maxRecDepth 100000 in
set_option maxHeartbeats 4000000 in
theorem m_X0_store (g : Geo) (l : Launch) (hl9 : l.stackTraces = false) (σ : St) (hR : RG σ) (j : Nat) (hj : j < 30) (b : Int) (hb : R32 b) (n : Nat) (hn : σ.1 5 1 = (n : Int)) (hn30 : n ≤ 30) (T : Nat) (hT : σ.1 (7 + 2 * j) 1 = (T : Int)) (hT60 : T ≤ 60) (hk : ∀ l, l < n → σ.1 (7 + 2 * l) 1 ≤ 60) : Met l yX0_store wsX0_store ({ frames := 1, cells := 0, slots := 0, locals := 23 }) (va_Pc [.ref (ga g (5)), .ref (ga g (7 + 2 * j)), .int (iN (b))] (World g σ)) (QV g (fun u => u = sw (sw σ (7 + 2 * j) 10 b) (7 + 2 * j) 12 (stF σ n j b))) 0 0 (gA g) := by
  refine V_met hl9 (by decide) rfl (Nat.le_of_ble_eq_true rfl) ?_
  intro p9 e9 s9 m9 b9 t9 c9 X hr _
  refine V_lv (lv' := [(0, .ref (ga g (5))), (1, .ref (ga g (7 + 2 * j))), (2, .int (iN (b)))]) rfl ?_
  refine V_aload_n X 1 rfl dX0_store_0 rfl ?_
  refine V_iload_n X 2 rfl dX0_store_1 rfl ?_
  refine V_put X (ci := 2) (7 + 2 * j) (by omega) (kd_lap hj) (by decide) rfl (fun _ h => List.mem_cons_of_mem _ (List.mem_append_left _ (List.mem_append_right _ h))) 10 (by decide) (List.mem_of_getElem? (i := 1) rfl) rfl tyX2 tyX2_ok nmX2 rfl rfl rfl rfl rfl (Nat.le_of_ble_eq_true rfl) dX0_store_2 ?_
  refine V_aload_n X 1 rfl dX0_store_5 rfl ?_
  refine V_aload_n X 0 rfl dX0_store_6 rfl ?_
  refine V_iload_n X 2 rfl dX0_store_7 rfl ?_
  refine V_callV_I X (na := 1) (ci := 0) (b0 := 5) (by decide) (rfl) (by decide) rfl (m_X0_has g l hl9 (sw σ (7 + 2 * j) (10) (b)) (hR.sw _ _ hb) (b) (hb)) gX0_store_X0_has rfl rfl rfl (by decide +kernel) ⟨Nat.le_of_ble_eq_true rfl, Nat.le_of_ble_eq_true rfl⟩ rfl rfl (Nat.le_of_ble_eq_true rfl) ⟨Nat.le_of_ble_eq_true rfl, Nat.le_of_ble_eq_true rfl⟩ dX0_store_8 (fun z1 u2 z1r hp3 => ?_)
  obtain ⟨hz9, hu4⟩ := hp3
  have hu4 := hu4.symm
  subst hu4
  rw [rd_n (by omega)] at hz9
  rcases Classical.em (0 ≤ b ∧ b < σ.1 5 1) with hh11 | hh11
  · skip
    rw [if_pos hh11] at hz9
    subst hz9
    refine V_if_eq X 27 ⟨by decide, by decide⟩ dX0_store_11 (by decide) (fun h => absurd h (by first | decide | omega)) (fun _ => ?_)
    refine V_aload_n X 1 rfl dX0_store_14 rfl ?_
    refine V_aload_n X 0 rfl dX0_store_15 rfl ?_
    refine V_get X (ci := 0) (5) (by decide) (rfl) (by decide) rfl (fun _ h => List.mem_cons_of_mem _ (List.mem_append_right _ h)) 0 (by decide) (List.mem_of_getElem? (i := 2) rfl) rfl rfl dX0_store_16 ?_
    refine V_iload_n X 2 rfl dX0_store_19 rfl ?_
    refine V_aald16 X (6) (by decide) (rfl) (b.toNat) (by omega) (by omega) dX0_store_20 ?_
    refine V_callV_I X (na := 1) (ci := 2) (b0 := 7 + 2 * j) (by omega) (kd_lap hj) (by decide) rfl (m_X2_inputsUnlike g l hl9 _ (hR.sw _ _ hb) j hj b.toNat (by omega) T (by rw [rd_k (by decide)]; exact hT) hT60 (by rw [rd_k (by decide)]; exact hk b.toNat (by omega))) gX0_store_X2_inputsUnlike rfl rfl rfl (by decide +kernel) ⟨Nat.le_of_ble_eq_true rfl, Nat.le_of_ble_eq_true rfl⟩ rfl rfl (Nat.le_of_ble_eq_true rfl) ⟨Nat.le_of_ble_eq_true rfl, Nat.le_of_ble_eq_true rfl⟩ dX0_store_21 (fun z5 u6 z5r hp7 => ?_)
    obtain ⟨hz, hu8⟩ := hp7
    have hu8 := hu8.symm
    subst hu8
    rw [sw_ne (by omega), sw_ne (by omega), rd_k (by decide)] at hz
    refine V_goto X 31 dX0_store_24 (by decide) ?_
    refine V_put X (ci := 2) (7 + 2 * j) (by omega) (kd_lap hj) (by decide) rfl (fun _ h => List.mem_cons_of_mem _ (List.mem_append_left _ (List.mem_append_right _ h))) 12 (by decide) (List.mem_of_getElem? (i := 4) rfl) rfl tyX2 tyX2_ok nmX2 rfl rfl rfl rfl rfl (Nat.le_of_ble_eq_true rfl) dX0_store_31 ?_
    exact V_vret X hr (by show _ = _; rw [stF, if_pos (by omega), hz, hT, Int.toNat_natCast]) dX0_store_34 (by decide) (by decide)
  · skip
    rw [if_neg hh11] at hz9
    subst hz9
    refine V_if_eq X 27 ⟨by decide, by decide⟩ dX0_store_11 (by decide) (fun _ => ?_) (fun h => absurd h (by first | decide | omega))
    refine V_aload_n X 1 rfl dX0_store_27 rfl ?_
    refine V_get X (ci := 2) (7 + 2 * j) (by omega) (kd_lap hj) (by decide) rfl (fun _ h => List.mem_cons_of_mem _ (List.mem_append_left _ (List.mem_append_right _ h))) 1 (by decide) (List.mem_of_getElem? (i := 3) rfl) rfl rfl dX0_store_28 ?_
    refine V_top (b := σ.1 (7 + 2 * j) (1)) (rd_k (by decide)) ?_
    refine V_put X (ci := 2) (7 + 2 * j) (by omega) (kd_lap hj) (by decide) rfl (fun _ h => List.mem_cons_of_mem _ (List.mem_append_left _ (List.mem_append_right _ h))) 12 (by decide) (List.mem_of_getElem? (i := 4) rfl) rfl tyX2 tyX2_ok nmX2 rfl rfl rfl rfl rfl (Nat.le_of_ble_eq_true rfl) dX0_store_31 ?_
    exact V_vret X hr (by show _ = _; rw [stF, if_neg (by omega)]) dX0_store_34 (by decide) (by decide)
set_option maxRecDepth 100000 in
set_option maxHeartbeats 4000000 in
theorem m_X0_settleDepth (g : Geo) (l : Launch) (hl9 : l.stackTraces = false) (σ : St) (hR : RG σ) (j : Nat) (hj : j < 30) (n : Nat) (hn : σ.1 5 1 = (n : Int)) (hn30 : n ≤ 30) : Met l yX0_settleDepth wsX0_settleDepth ({ frames := 1, cells := 0, slots := 0, locals := 21 }) (va_Pc [.ref (ga g (5)), .ref (ga g (7 + 2 * j))] (World g σ)) (QV g (fun u => u = sw σ (7 + 2 * j) 11 (dpF σ n j))) 0 0 (gA g) := by
  refine V_met hl9 (by decide) rfl (Nat.le_of_ble_eq_true rfl) ?_
  intro p9 e9 s9 m9 b9 t9 c9 X hr _
  refine V_lv (lv' := [(0, .ref (ga g (5))), (1, .ref (ga g (7 + 2 * j)))]) rfl ?_
  refine V_aload_n X 1 rfl dX0_settleDepth_0 rfl ?_
  refine V_aload_n X 0 rfl dX0_settleDepth_1 rfl ?_
  refine V_aload_n X 1 rfl dX0_settleDepth_2 rfl ?_
  refine V_get X (ci := 2) (7 + 2 * j) (by omega) (kd_lap hj) (by decide) rfl (fun _ h => List.mem_cons_of_mem _ (List.mem_append_left _ (List.mem_append_right _ h))) 10 (by decide) (List.mem_of_getElem? (i := 1) rfl) rfl rfl dX0_settleDepth_3 ?_
  refine V_callV_I X (na := 1) (ci := 0) (b0 := 5) (by decide) (rfl) (by decide) rfl (m_X0_has g l hl9 (σ) (hR) (σ.1 (7 + 2 * j) 10) (hR _ _)) gX0_settleDepth_X0_has rfl rfl rfl (by decide +kernel) ⟨Nat.le_of_ble_eq_true rfl, Nat.le_of_ble_eq_true rfl⟩ rfl rfl (Nat.le_of_ble_eq_true rfl) ⟨Nat.le_of_ble_eq_true rfl, Nat.le_of_ble_eq_true rfl⟩ dX0_settleDepth_6 (fun z1 u2 z1r hp3 => ?_)
  obtain ⟨hz9, hu4⟩ := hp3
  have hu4 := hu4.symm
  subst hu4
  rcases Classical.em (0 ≤ σ.1 (7 + 2 * j) 10 ∧ σ.1 (7 + 2 * j) 10 < σ.1 5 1) with hh9 | hh9
  · skip
    rw [if_pos hh9] at hz9
    subst hz9
    refine V_if_eq X 29 ⟨by decide, by decide⟩ dX0_settleDepth_9 (by decide) (fun h => absurd h (by first | decide | omega)) (fun _ => ?_)
    refine V_aload_n X 0 rfl dX0_settleDepth_12 rfl ?_
    refine V_get X (ci := 0) (5) (by decide) (rfl) (by decide) rfl (fun _ h => List.mem_cons_of_mem _ (List.mem_append_right _ h)) 0 (by decide) (List.mem_of_getElem? (i := 2) rfl) rfl rfl dX0_settleDepth_13 ?_
    refine V_aload_n X 1 rfl dX0_settleDepth_16 rfl ?_
    refine V_get X (ci := 2) (7 + 2 * j) (by omega) (kd_lap hj) (by decide) rfl (fun _ h => List.mem_cons_of_mem _ (List.mem_append_left _ (List.mem_append_right _ h))) 10 (by decide) (List.mem_of_getElem? (i := 1) rfl) rfl rfl dX0_settleDepth_17 ?_
    refine V_aald16 X (6) (by decide) (rfl) ((σ.1 (7 + 2 * j) 10).toNat) (by omega) (by omega) dX0_settleDepth_20 ?_
    refine V_get X (ci := 2) (7 + 2 * ((σ.1 (7 + 2 * j) 10).toNat)) (by omega) (kd_lap (by omega)) (by decide) rfl (fun _ h => List.mem_cons_of_mem _ (List.mem_append_left _ (List.mem_append_right _ h))) 11 (by decide) (List.mem_of_getElem? (i := 3) rfl) rfl rfl dX0_settleDepth_21 ?_
    refine V_iconst X dX0_settleDepth_24 ?_
    refine V_iadd X dX0_settleDepth_25 ?_
    refine V_goto X 30 dX0_settleDepth_26 (by decide) ?_
    refine V_put X (ci := 2) (7 + 2 * j) (by omega) (kd_lap hj) (by decide) rfl (fun _ h => List.mem_cons_of_mem _ (List.mem_append_left _ (List.mem_append_right _ h))) 11 (by decide) (List.mem_of_getElem? (i := 3) rfl) rfl tyX2 tyX2_ok nmX2 rfl rfl rfl rfl rfl (Nat.le_of_ble_eq_true rfl) dX0_settleDepth_30 ?_
    exact V_vret X hr (by show _ = _; rw [dpF, if_pos (by omega)]) dX0_settleDepth_33 (by decide) (by decide)
  · skip
    rw [if_neg hh9] at hz9
    subst hz9
    refine V_if_eq X 29 ⟨by decide, by decide⟩ dX0_settleDepth_9 (by decide) (fun _ => ?_) (fun h => absurd h (by first | decide | omega))
    refine V_iconst X dX0_settleDepth_29 ?_
    refine V_put X (ci := 2) (7 + 2 * j) (by omega) (kd_lap hj) (by decide) rfl (fun _ h => List.mem_cons_of_mem _ (List.mem_append_left _ (List.mem_append_right _ h))) 11 (by decide) (List.mem_of_getElem? (i := 3) rfl) rfl tyX2 tyX2_ok nmX2 rfl rfl rfl rfl rfl (Nat.le_of_ble_eq_true rfl) dX0_settleDepth_30 ?_
    exact V_vret X hr (by show _ = _; rw [dpF, if_neg (by omega)]) dX0_settleDepth_33 (by decide) (by decide)
set_option maxRecDepth 100000 in
set_option maxHeartbeats 4000000 in
theorem m_X0_isAhead (g : Geo) (l : Launch) (hl9 : l.stackTraces = false) (σ : St) (hR : RG σ) (n : Nat) (hLB : LB σ n) (a b : Int) (ha : R32 a) (hb : R32 b) : Met l yX0_isAhead wsX0_isAhead ({ frames := 1, cells := 0, slots := 0, locals := 21 }) (va_Pc [.ref (ga g (5)), .int (iN (a)), .int (iN (b))] (World g σ)) (QI g (fun z u => z = (@ite Int (ahd (cntC σ) n a b) (Classical.propDecidable _) 1 0) ∧ u = σ)) 0 0 (gA g) := by
  refine V_met hl9 (by decide) rfl (Nat.le_of_ble_eq_true rfl) ?_
  intro p9 e9 s9 m9 b9 t9 c9 X hr _
  have hn := hLB.1
  have hn30 := hLB.2.1
  refine V_lv (lv' := [(0, .ref (ga g (5))), (1, .int (iN (a))), (2, .int (iN (b)))]) rfl ?_
  refine V_aload_n X 0 rfl dX0_isAhead_0 rfl ?_
  refine V_iload_n X 1 rfl dX0_isAhead_1 rfl ?_
  refine V_callV_I X (na := 1) (ci := 0) (b0 := 5) (by decide) (rfl) (by decide) rfl (m_X0_has g l hl9 (σ) (hR) (a) (ha)) gX0_isAhead_X0_has rfl rfl rfl (by decide +kernel) ⟨Nat.le_of_ble_eq_true rfl, Nat.le_of_ble_eq_true rfl⟩ rfl rfl (Nat.le_of_ble_eq_true rfl) ⟨Nat.le_of_ble_eq_true rfl, Nat.le_of_ble_eq_true rfl⟩ dX0_isAhead_2 (fun z1 u2 z1r hp3 => ?_)
  obtain ⟨hz9, hu4⟩ := hp3
  have hu4 := hu4.symm
  subst hu4
  rcases Classical.em (0 ≤ a ∧ a < σ.1 5 1) with hh5 | hh5
  · skip
    rw [if_pos hh5] at hz9
    subst hz9
    refine V_if_eq X 16 ⟨by decide, by decide⟩ dX0_isAhead_5 (by decide) (fun h => absurd h (by first | decide | omega)) (fun _ => ?_)
    refine V_aload_n X 0 rfl dX0_isAhead_8 rfl ?_
    refine V_iload_n X 2 rfl dX0_isAhead_9 rfl ?_
    refine V_callV_I X (na := 1) (ci := 0) (b0 := 5) (by decide) (rfl) (by decide) rfl (m_X0_has g l hl9 (σ) (hR) (b) (hb)) gX0_isAhead_X0_has rfl rfl rfl (by decide +kernel) ⟨Nat.le_of_ble_eq_true rfl, Nat.le_of_ble_eq_true rfl⟩ rfl rfl (Nat.le_of_ble_eq_true rfl) ⟨Nat.le_of_ble_eq_true rfl, Nat.le_of_ble_eq_true rfl⟩ dX0_isAhead_10 (fun z5 u6 z5r hp7 => ?_)
    obtain ⟨hz9, hu8⟩ := hp7
    have hu8 := hu8.symm
    subst hu8
    rcases Classical.em (0 ≤ b ∧ b < σ.1 5 1) with hh13 | hh13
    · skip
      rw [if_pos hh13] at hz9
      subst hz9
      refine V_if_ne X 22 ⟨by decide, by decide⟩ dX0_isAhead_13 (by decide) (fun _ => ?_) (fun h => absurd h (by first | decide | omega))
      refine V_aload_n X 0 rfl dX0_isAhead_22 rfl ?_
      refine V_get X (ci := 0) (5) (by decide) (rfl) (by decide) rfl (fun _ h => List.mem_cons_of_mem _ (List.mem_append_left _ (List.mem_append_right _ h))) 0 (by decide) (List.mem_of_getElem? (i := 1) rfl) rfl rfl dX0_isAhead_23 ?_
      refine V_iload_n X 1 rfl dX0_isAhead_26 rfl ?_
      refine V_aald16 X (6) (by decide) (rfl) (a.toNat) (by omega) (by omega) dX0_isAhead_27 ?_
      have hca := hLB.cnt (l := a.toNat) (by omega)
      unfold cntC at hca
      refine V_callV_I X (na := 0) (ci := 2) (b0 := 7 + 2 * (a.toNat)) (by omega) (kd_lap (by omega)) (by decide) rfl (m_X2_counted g l hl9 σ hR a.toNat (by omega) (by omega) (by omega)) gX0_isAhead_X2_counted rfl rfl rfl (by decide +kernel) ⟨Nat.le_of_ble_eq_true rfl, Nat.le_of_ble_eq_true rfl⟩ rfl rfl (Nat.le_of_ble_eq_true rfl) ⟨Nat.le_of_ble_eq_true rfl, Nat.le_of_ble_eq_true rfl⟩ dX0_isAhead_28 (fun z9 u10 z9r hp11 => ?_)
      obtain ⟨hza, hu12⟩ := hp11
      have hu12 := hu12.symm
      subst hu12
      refine V_istore_n X [(3, .int (iN (z9))), (0, .ref (ga g (5))), (1, .int (iN (a))), (2, .int (iN (b)))] dX0_isAhead_31 rfl (by decide) rfl ?_
      refine V_aload_n X 1 rfl dX0_isAhead_32 rfl ?_
      refine V_get X (ci := 0) (5) (by decide) (rfl) (by decide) rfl (fun _ h => List.mem_cons_of_mem _ (List.mem_append_left _ (List.mem_append_right _ h))) 0 (by decide) (List.mem_of_getElem? (i := 1) rfl) rfl rfl dX0_isAhead_33 ?_
      refine V_iload_n X 3 rfl dX0_isAhead_36 rfl ?_
      refine V_aald16 X (6) (by decide) (rfl) (b.toNat) (by omega) (by omega) dX0_isAhead_37 ?_
      have hcb := hLB.cnt (l := b.toNat) (by omega)
      unfold cntC at hcb
      refine V_callV_I X (na := 0) (ci := 2) (b0 := 7 + 2 * (b.toNat)) (by omega) (kd_lap (by omega)) (by decide) rfl (m_X2_counted g l hl9 σ hR b.toNat (by omega) (by omega) (by omega)) gX0_isAhead_X2_counted rfl rfl rfl (by decide +kernel) ⟨Nat.le_of_ble_eq_true rfl, Nat.le_of_ble_eq_true rfl⟩ rfl rfl (Nat.le_of_ble_eq_true rfl) ⟨Nat.le_of_ble_eq_true rfl, Nat.le_of_ble_eq_true rfl⟩ dX0_isAhead_38 (fun z13 u14 z13r hp15 => ?_)
      obtain ⟨hzb, hu16⟩ := hp15
      have hu16 := hu16.symm
      subst hu16
      refine V_istore X [(4, .int (iN (z13))), (3, .int (iN (z9))), (0, .ref (ga g (5))), (1, .int (iN (a))), (2, .int (iN (b)))] dX0_isAhead_41 (by decide) rfl ?_
      refine V_iload_n X 1 rfl dX0_isAhead_43 rfl ?_
      refine V_iload X 0 rfl dX0_isAhead_44 ?_
      refine V_icmp_lt X 60 ⟨by omega, by omega⟩ ⟨by omega, by omega⟩ dX0_isAhead_46 (by decide) (fun q17 => ?_) (fun q17 => ?_)
      · skip
        refine V_iconst X dX0_isAhead_60 ?_
        refine V_goto X 65 dX0_isAhead_61 (by decide) ?_
        exact V_iret X hr (iN_bool (Or.inr rfl)).1 ⟨by decide, by decide⟩ (by exact ⟨by rw [if_pos (by unfold ahd cntC; omega)], rfl⟩) dX0_isAhead_65 (by decide) (by decide)
      · skip
        refine V_iload_n X 1 rfl dX0_isAhead_49 rfl ?_
        refine V_iload X 0 rfl dX0_isAhead_50 ?_
        refine V_icmp_ne X 64 ⟨by omega, by omega⟩ ⟨by omega, by omega⟩ dX0_isAhead_52 (by decide) (fun q18 => ?_) (fun q18 => ?_)
        · skip
          refine V_iconst X dX0_isAhead_64 ?_
          exact V_iret X hr (iN_bool (Or.inl rfl)).1 ⟨by decide, by decide⟩ (by exact ⟨by rw [if_neg (by unfold ahd cntC; omega)], rfl⟩) dX0_isAhead_65 (by decide) (by decide)
        · skip
          refine V_iload_n X 3 rfl dX0_isAhead_55 rfl ?_
          refine V_iload_n X 4 rfl dX0_isAhead_56 rfl ?_
          refine V_icmp_ge X 64 ha hb dX0_isAhead_57 (by decide) (fun q19 => ?_) (fun q19 => ?_)
          · skip
            refine V_iconst X dX0_isAhead_64 ?_
            exact V_iret X hr (iN_bool (Or.inl rfl)).1 ⟨by decide, by decide⟩ (by exact ⟨by rw [if_neg (by unfold ahd cntC; omega)], rfl⟩) dX0_isAhead_65 (by decide) (by decide)
          · skip
            refine V_iconst X dX0_isAhead_60 ?_
            refine V_goto X 65 dX0_isAhead_61 (by decide) ?_
            exact V_iret X hr (iN_bool (Or.inr rfl)).1 ⟨by decide, by decide⟩ (by exact ⟨by rw [if_pos (by unfold ahd cntC; omega)], rfl⟩) dX0_isAhead_65 (by decide) (by decide)
    · skip
      rw [if_neg hh13] at hz9
      subst hz9
      refine V_if_ne X 22 ⟨by decide, by decide⟩ dX0_isAhead_13 (by decide) (fun h => absurd h (by first | decide | omega)) (fun _ => ?_)
      refine V_aload_n X 0 rfl dX0_isAhead_16 rfl ?_
      refine V_iload_n X 1 rfl dX0_isAhead_17 rfl ?_
      refine V_callV_I X (na := 1) (ci := 0) (b0 := 5) (by decide) (rfl) (by decide) rfl (m_X0_has g l hl9 σ hR a ha) gX0_isAhead_X0_has rfl rfl rfl (by decide +kernel) ⟨Nat.le_of_ble_eq_true rfl, Nat.le_of_ble_eq_true rfl⟩ rfl rfl (Nat.le_of_ble_eq_true rfl) ⟨Nat.le_of_ble_eq_true rfl, Nat.le_of_ble_eq_true rfl⟩ dX0_isAhead_18 (fun z20 u21 z20r hp22 => ?_)
      obtain ⟨hz9, hu23⟩ := hp22
      have hu23 := hu23.symm
      subst hu23
      rw [if_pos (by omega)] at hz9
      subst hz9
      exact V_iret X hr (iN_bool (Or.inr rfl)).1 ⟨by decide, by decide⟩ (by exact ⟨by rw [if_pos (by unfold ahd cntC; omega)], rfl⟩) dX0_isAhead_21 (by decide) (by decide)
  · skip
    rw [if_neg hh5] at hz9
    subst hz9
    refine V_if_eq X 16 ⟨by decide, by decide⟩ dX0_isAhead_5 (by decide) (fun _ => ?_) (fun h => absurd h (by first | decide | omega))
    refine V_aload_n X 0 rfl dX0_isAhead_16 rfl ?_
    refine V_iload_n X 1 rfl dX0_isAhead_17 rfl ?_
    refine V_callV_I X (na := 1) (ci := 0) (b0 := 5) (by decide) (rfl) (by decide) rfl (m_X0_has g l hl9 σ hR a ha) gX0_isAhead_X0_has rfl rfl rfl (by decide +kernel) ⟨Nat.le_of_ble_eq_true rfl, Nat.le_of_ble_eq_true rfl⟩ rfl rfl (Nat.le_of_ble_eq_true rfl) ⟨Nat.le_of_ble_eq_true rfl, Nat.le_of_ble_eq_true rfl⟩ dX0_isAhead_18 (fun z24 u25 z24r hp26 => ?_)
    obtain ⟨hz9, hu27⟩ := hp26
    have hu27 := hu27.symm
    subst hu27
    rw [if_neg (by omega)] at hz9
    subst hz9
    exact V_iret X hr (iN_bool (Or.inl rfl)).1 ⟨by decide, by decide⟩ (by exact ⟨by rw [if_neg (by unfold ahd cntC; omega)], rfl⟩) dX0_isAhead_21 (by decide) (by decide)
set_option maxRecDepth 100000 in
set_option maxHeartbeats 4000000 in
theorem m_X0_countStanding (g : Geo) (l : Launch) (hl9 : l.stackTraces = false) (σ : St) (hR : RG σ) (n : Nat) (hn : σ.1 5 1 = (n : Int)) (hn30 : n ≤ 30) : Met l yX0_countStanding wsX0_countStanding ({ frames := 0, cells := 0, slots := 0, locals := 0 }) (va_Pc [.ref (ga g (5))] (World g σ)) (QI g (fun z u => z = sumF (fun l => if σ.1 (7 + 2 * l) 9 = 0 then 0 else 1) n ∧ u = σ)) 0 0 (gA g) := by
  refine V_met hl9 (by decide) rfl (Nat.le_of_ble_eq_true rfl) ?_
  intro p9 e9 s9 m9 b9 t9 c9 X hr _
  refine V_lv (lv' := [(0, .ref (ga g (5)))]) rfl ?_
  refine V_iconst X dX0_countStanding_0 ?_
  refine V_istore_n X [(1, .int (iN (0))), (0, .ref (ga g (5)))] dX0_countStanding_1 rfl (by decide) rfl ?_
  refine V_iconst X dX0_countStanding_2 ?_
  refine V_istore_n X [(2, .int (iN (0))), (1, .int (iN (0))), (0, .ref (ga g (5)))] dX0_countStanding_3 rfl (by decide) rfl ?_
  refine V_sub (lv' := [(0, .ref (ga g (5))), (1, .int (iN (0))), (2, .int (iN (0)))]) [2, 1, 0] rfl ?_
  refine V_up (N := n) (fun (i : Nat) (u : St) (lw : List (Nat × Value)) => σ = u ∧ [(0, .ref (ga g (5))), (1, .int (iN (sumF (fun l => if σ.1 (7 + 2 * l) 9 = 0 then 0 else 1) i))), (2, .int (iN (((i : Nat) : Int))))] = lw ∧ (0 ≤ sumF (fun l => if σ.1 (7 + 2 * l) 9 = 0 then 0 else 1) i ∧ sumF (fun l => if σ.1 (7 + 2 * l) 9 = 0 then 0 else 1) i ≤ i)) (i0 := 0) (Nat.zero_le _) ⟨rfl, rfl, ⟨Int.le_refl 0, Int.le_refl 0⟩⟩ ?_ ?_
  · skip
    rintro _ _ ⟨rfl, rfl, hb⟩
    refine V_iload_n X 2 rfl dX0_countStanding_4 rfl ?_
    refine V_aload_n X 0 rfl dX0_countStanding_5 rfl ?_
    refine V_get X (ci := 0) (5) (by decide) (rfl) (by decide) rfl (fun _ h => List.mem_cons_of_mem _ (List.mem_append_left _ (List.mem_append_right _ h))) 1 (by decide) (List.mem_of_getElem? (i := 1) rfl) rfl rfl dX0_countStanding_6 ?_
    refine V_icmp_ge X 33 ⟨by omega, by omega⟩ (hR _ _) dX0_countStanding_9 (by decide) (fun _ => ?_) (fun h => absurd h (by omega))
    refine V_iload_n X 1 rfl dX0_countStanding_33 rfl ?_
    exact V_iret X hr rfl ⟨by omega, by omega⟩ (by exact ⟨rfl, rfl⟩) dX0_countStanding_34 (by decide) (by decide)
  · skip
    rintro i _ _ hiN ⟨rfl, rfl, hb⟩ kk
    refine V_iload_n X 2 rfl dX0_countStanding_4 rfl ?_
    refine V_aload_n X 0 rfl dX0_countStanding_5 rfl ?_
    refine V_get X (ci := 0) (5) (by decide) (rfl) (by decide) rfl (fun _ h => List.mem_cons_of_mem _ (List.mem_append_left _ (List.mem_append_right _ h))) 1 (by decide) (List.mem_of_getElem? (i := 1) rfl) rfl rfl dX0_countStanding_6 ?_
    refine V_icmp_ge X 33 ⟨by omega, by omega⟩ (hR _ _) dX0_countStanding_9 (by decide) (fun h => absurd h (by omega)) (fun _ => ?_)
    refine V_aload_n X 0 rfl dX0_countStanding_12 rfl ?_
    refine V_get X (ci := 0) (5) (by decide) (rfl) (by decide) rfl (fun _ h => List.mem_cons_of_mem _ (List.mem_append_left _ (List.mem_append_right _ h))) 0 (by decide) (List.mem_of_getElem? (i := 2) rfl) rfl rfl dX0_countStanding_13 ?_
    refine V_iload_n X 2 rfl dX0_countStanding_16 rfl ?_
    refine V_aald16 X (6) (by decide) (rfl) (i) (rfl) (by omega) dX0_countStanding_17 ?_
    refine V_get X (ci := 2) (7 + 2 * i) (by omega) (kd_lap (by omega)) (by decide) rfl (fun _ h => List.mem_cons_of_mem _ (List.mem_append_right _ h)) 9 (by decide) (List.mem_of_getElem? (i := 3) rfl) rfl rfl dX0_countStanding_18 ?_
    refine V_if_eq X 27 (hR _ _) dX0_countStanding_21 (by decide) (fun q1 => ?_) (fun q1 => ?_)
    · skip
      refine V_iinc X [(2, .int (iN (((i : Nat) : Int) + 1))), (0, .ref (ga g (5))), (1, .int (iN (sumF (fun l => if σ.1 (7 + 2 * l) 9 = 0 then 0 else 1) i)))] 2 (((i : Nat) : Int) + 1) (rfl) rfl dX0_countStanding_27 (by decide) rfl ?_
      refine V_goto X 4 dX0_countStanding_30 (by decide) ?_
      refine V_sub (lv' := [(0, .ref (ga g (5))), (1, .int (iN (sumF (fun l => if σ.1 (7 + 2 * l) 9 = 0 then 0 else 1) i))), (2, .int (iN (((i : Nat) : Int) + 1)))]) [1, 2, 0] rfl ?_
      refine V_lv (congrArg (fun q : Int => ([(0, .ref (ga g (5))), (1, .int (iN q)), (2, .int (iN (((i : Nat) : Int) + 1)))] : List (Nat × Value))) (show sumF (fun l => if σ.1 (7 + 2 * l) 9 = 0 then 0 else 1) i = sumF (fun l => if σ.1 (7 + 2 * l) 9 = 0 then 0 else 1) (i + 1) from by show _ = sumF _ i + (if _ then 0 else 1); rw [if_pos (by omega)]; omega)) ?_
      refine V_lv (congrArg (fun q : Int => ([(0, .ref (ga g (5))), (1, .int (iN (sumF (fun l => if σ.1 (7 + 2 * l) 9 = 0 then 0 else 1) (i + 1)))), (2, .int (iN q))] : List (Nat × Value))) (show ((i : Nat) : Int) + 1 = (((i + 1) : Nat) : Int) from by omega)) ?_
      exact kk _ _ ⟨rfl, rfl, sum01_b (fun l => by split <;> omega) hb⟩
    · skip
      refine V_iinc X [(1, .int (iN (sumF (fun l => if σ.1 (7 + 2 * l) 9 = 0 then 0 else 1) i + 1))), (0, .ref (ga g (5))), (2, .int (iN (((i : Nat) : Int))))] 1 (sumF (fun l => if σ.1 (7 + 2 * l) 9 = 0 then 0 else 1) i + 1) (rfl) rfl dX0_countStanding_24 (by decide) rfl ?_
      refine V_iinc X [(2, .int (iN (((i : Nat) : Int) + 1))), (1, .int (iN (sumF (fun l => if σ.1 (7 + 2 * l) 9 = 0 then 0 else 1) i + 1))), (0, .ref (ga g (5)))] 2 (((i : Nat) : Int) + 1) (rfl) rfl dX0_countStanding_27 (by decide) rfl ?_
      refine V_goto X 4 dX0_countStanding_30 (by decide) ?_
      refine V_sub (lv' := [(0, .ref (ga g (5))), (1, .int (iN (sumF (fun l => if σ.1 (7 + 2 * l) 9 = 0 then 0 else 1) i + 1))), (2, .int (iN (((i : Nat) : Int) + 1)))]) [2, 1, 0] rfl ?_
      refine V_lv (congrArg (fun q : Int => ([(0, .ref (ga g (5))), (1, .int (iN q)), (2, .int (iN (((i : Nat) : Int) + 1)))] : List (Nat × Value))) (show sumF (fun l => if σ.1 (7 + 2 * l) 9 = 0 then 0 else 1) i + 1 = sumF (fun l => if σ.1 (7 + 2 * l) 9 = 0 then 0 else 1) (i + 1) from by show _ = sumF _ i + (if _ then 0 else 1); rw [if_neg (by omega)])) ?_
      refine V_lv (congrArg (fun q : Int => ([(0, .ref (ga g (5))), (1, .int (iN (sumF (fun l => if σ.1 (7 + 2 * l) 9 = 0 then 0 else 1) (i + 1)))), (2, .int (iN q))] : List (Nat × Value))) (show ((i : Nat) : Int) + 1 = (((i + 1) : Nat) : Int) from by omega)) ?_
      exact kk _ _ ⟨rfl, rfl, sum01_b (fun l => by split <;> omega) hb⟩
set_option maxRecDepth 100000 in
set_option maxHeartbeats 4000000 in
theorem m_X0_leastOn (g : Geo) (l : Launch) (hl9 : l.stackTraces = false) (σ : St) (hR : RG σ) (n : Nat) (hLB : LB σ n) (tr : Int) (htr : R32 tr) : Met l yX0_leastOn wsX0_leastOn ({ frames := 2, cells := 0, slots := 0, locals := 45 }) (va_Pc [.ref (ga g (5)), .int (iN (tr))] (World g σ)) (QI g (fun z u => z = bestF (fun l => decide (¬ σ.1 (7 + 2 * l) 9 = 0 ∧ σ.1 (7 + 2 * l) 4 = tr)) (cntC σ) n ∧ u = σ)) 0 0 (gA g) := by
  refine V_met hl9 (by decide) rfl (Nat.le_of_ble_eq_true rfl) ?_
  intro p9 e9 s9 m9 b9 t9 c9 X hr _
  have hn := hLB.1
  have hn30 := hLB.2.1
  have hbn := bestF_b (sel := fun l => decide (¬ σ.1 (7 + 2 * l) 9 = 0 ∧ σ.1 (7 + 2 * l) 4 = tr)) (cnt := cntC σ) n
  refine V_lv (lv' := [(0, .ref (ga g (5))), (1, .int (iN (tr)))]) rfl ?_
  refine V_iconst X dX0_leastOn_0 ?_
  refine V_istore_n X [(2, .int (iN (-1))), (0, .ref (ga g (5))), (1, .int (iN (tr)))] dX0_leastOn_1 rfl (by decide) rfl ?_
  refine V_iconst X dX0_leastOn_2 ?_
  refine V_istore_n X [(3, .int (iN (0))), (2, .int (iN (-1))), (0, .ref (ga g (5))), (1, .int (iN (tr)))] dX0_leastOn_3 rfl (by decide) rfl ?_
  refine V_sub (lv' := [(0, .ref (ga g (5))), (1, .int (iN (tr))), (2, .int (iN (-1))), (3, .int (iN (0)))]) [2, 3, 1, 0] rfl ?_
  refine V_up (N := n) (fun (i : Nat) (u : St) (lw : List (Nat × Value)) => σ = u ∧ [(0, .ref (ga g (5))), (1, .int (iN (tr))), (2, .int (iN (bestF (fun l => decide (¬ σ.1 (7 + 2 * l) 9 = 0 ∧ σ.1 (7 + 2 * l) 4 = tr)) (cntC σ) i))), (3, .int (iN (((i : Nat) : Int))))] = lw ∧ (True)) (i0 := 0) (Nat.zero_le _) ⟨rfl, rfl, trivial⟩ ?_ ?_
  · skip
    rintro _ _ ⟨rfl, rfl, -⟩
    refine V_iload_n X 3 rfl dX0_leastOn_4 rfl ?_
    refine V_aload_n X 0 rfl dX0_leastOn_5 rfl ?_
    refine V_get X (ci := 0) (5) (by decide) (rfl) (by decide) rfl (fun _ h => List.mem_cons_of_mem _ (List.mem_append_left _ (List.mem_append_right _ h))) 1 (by decide) (List.mem_of_getElem? (i := 1) rfl) rfl rfl dX0_leastOn_6 ?_
    refine V_icmp_ge X 54 ⟨by omega, by omega⟩ (hR _ _) dX0_leastOn_9 (by decide) (fun _ => ?_) (fun h => absurd h (by omega))
    refine V_iload_n X 2 rfl dX0_leastOn_54 rfl ?_
    exact V_iret X hr rfl ⟨by omega, by omega⟩ (by exact ⟨rfl, rfl⟩) dX0_leastOn_55 (by decide) (by decide)
  · skip
    rintro i _ _ hiN ⟨rfl, rfl, -⟩ kk
    refine V_iload_n X 3 rfl dX0_leastOn_4 rfl ?_
    refine V_aload_n X 0 rfl dX0_leastOn_5 rfl ?_
    refine V_get X (ci := 0) (5) (by decide) (rfl) (by decide) rfl (fun _ h => List.mem_cons_of_mem _ (List.mem_append_left _ (List.mem_append_right _ h))) 1 (by decide) (List.mem_of_getElem? (i := 1) rfl) rfl rfl dX0_leastOn_6 ?_
    refine V_icmp_ge X 54 ⟨by omega, by omega⟩ (hR _ _) dX0_leastOn_9 (by decide) (fun h => absurd h (by omega)) (fun _ => ?_)
    refine V_aload_n X 0 rfl dX0_leastOn_12 rfl ?_
    refine V_get X (ci := 0) (5) (by decide) (rfl) (by decide) rfl (fun _ h => List.mem_cons_of_mem _ (List.mem_append_left _ (List.mem_append_right _ h))) 0 (by decide) (List.mem_of_getElem? (i := 2) rfl) rfl rfl dX0_leastOn_13 ?_
    refine V_iload_n X 3 rfl dX0_leastOn_16 rfl ?_
    refine V_aald16 X (6) (by decide) (rfl) (i) (rfl) (by omega) dX0_leastOn_17 ?_
    refine V_get X (ci := 2) (7 + 2 * i) (by omega) (kd_lap (by omega)) (by decide) rfl (fun _ h => List.mem_cons_of_mem _ (List.mem_append_right _ h)) 9 (by decide) (List.mem_of_getElem? (i := 3) rfl) rfl rfl dX0_leastOn_18 ?_
    refine V_if_eq X 48 (hR _ _) dX0_leastOn_21 (by decide) (fun q1 => ?_) (fun q1 => ?_)
    · skip
      refine V_iinc X [(3, .int (iN (((i : Nat) : Int) + 1))), (0, .ref (ga g (5))), (1, .int (iN (tr))), (2, .int (iN (bestF (fun l => decide (¬ σ.1 (7 + 2 * l) 9 = 0 ∧ σ.1 (7 + 2 * l) 4 = tr)) (cntC σ) i)))] 3 (((i : Nat) : Int) + 1) (rfl) rfl dX0_leastOn_48 (by decide) rfl ?_
      refine V_goto X 4 dX0_leastOn_51 (by decide) ?_
      refine V_sub (lv' := [(0, .ref (ga g (5))), (1, .int (iN (tr))), (2, .int (iN (bestF (fun l => decide (¬ σ.1 (7 + 2 * l) 9 = 0 ∧ σ.1 (7 + 2 * l) 4 = tr)) (cntC σ) i))), (3, .int (iN (((i : Nat) : Int) + 1)))]) [1, 2, 3, 0] rfl ?_
      refine V_lv (congrArg (fun q : Int => ([(0, .ref (ga g (5))), (1, .int (iN (tr))), (2, .int (iN q)), (3, .int (iN (((i : Nat) : Int) + 1)))] : List (Nat × Value))) (show bestF (fun l => decide (¬ σ.1 (7 + 2 * l) 9 = 0 ∧ σ.1 (7 + 2 * l) 4 = tr)) (cntC σ) i = bestF (fun l => decide (¬ σ.1 (7 + 2 * l) 9 = 0 ∧ σ.1 (7 + 2 * l) 4 = tr)) (cntC σ) (i + 1) from best_0 (by simp; omega))) ?_
      refine V_lv (congrArg (fun q : Int => ([(0, .ref (ga g (5))), (1, .int (iN (tr))), (2, .int (iN (bestF (fun l => decide (¬ σ.1 (7 + 2 * l) 9 = 0 ∧ σ.1 (7 + 2 * l) 4 = tr)) (cntC σ) (i + 1)))), (3, .int (iN q))] : List (Nat × Value))) (show ((i : Nat) : Int) + 1 = (((i + 1) : Nat) : Int) from by omega)) ?_
      exact kk _ _ ⟨rfl, rfl, trivial⟩
    · skip
      refine V_aload_n X 0 rfl dX0_leastOn_24 rfl ?_
      refine V_get X (ci := 0) (5) (by decide) (rfl) (by decide) rfl (fun _ h => List.mem_cons_of_mem _ (List.mem_append_left _ (List.mem_append_right _ h))) 0 (by decide) (List.mem_of_getElem? (i := 2) rfl) rfl rfl dX0_leastOn_25 ?_
      refine V_iload_n X 3 rfl dX0_leastOn_28 rfl ?_
      refine V_aald16 X (6) (by decide) (rfl) (i) (rfl) (by omega) dX0_leastOn_29 ?_
      refine V_get X (ci := 2) (7 + 2 * i) (by omega) (kd_lap (by omega)) (by decide) rfl (fun _ h => List.mem_cons_of_mem _ (List.mem_append_right _ h)) 4 (by decide) (List.mem_of_getElem? (i := 4) rfl) rfl rfl dX0_leastOn_30 ?_
      refine V_iload_n X 1 rfl dX0_leastOn_33 rfl ?_
      refine V_icmp_ne X 48 (hR _ _) htr dX0_leastOn_34 (by decide) (fun q2 => ?_) (fun q2 => ?_)
      · skip
        refine V_iinc X [(3, .int (iN (((i : Nat) : Int) + 1))), (0, .ref (ga g (5))), (1, .int (iN (tr))), (2, .int (iN (bestF (fun l => decide (¬ σ.1 (7 + 2 * l) 9 = 0 ∧ σ.1 (7 + 2 * l) 4 = tr)) (cntC σ) i)))] 3 (((i : Nat) : Int) + 1) (rfl) rfl dX0_leastOn_48 (by decide) rfl ?_
        refine V_goto X 4 dX0_leastOn_51 (by decide) ?_
        refine V_sub (lv' := [(0, .ref (ga g (5))), (1, .int (iN (tr))), (2, .int (iN (bestF (fun l => decide (¬ σ.1 (7 + 2 * l) 9 = 0 ∧ σ.1 (7 + 2 * l) 4 = tr)) (cntC σ) i))), (3, .int (iN (((i : Nat) : Int) + 1)))]) [1, 2, 3, 0] rfl ?_
        refine V_lv (congrArg (fun q : Int => ([(0, .ref (ga g (5))), (1, .int (iN (tr))), (2, .int (iN q)), (3, .int (iN (((i : Nat) : Int) + 1)))] : List (Nat × Value))) (show bestF (fun l => decide (¬ σ.1 (7 + 2 * l) 9 = 0 ∧ σ.1 (7 + 2 * l) 4 = tr)) (cntC σ) i = bestF (fun l => decide (¬ σ.1 (7 + 2 * l) 9 = 0 ∧ σ.1 (7 + 2 * l) 4 = tr)) (cntC σ) (i + 1) from best_0 (by simp; omega))) ?_
        refine V_lv (congrArg (fun q : Int => ([(0, .ref (ga g (5))), (1, .int (iN (tr))), (2, .int (iN (bestF (fun l => decide (¬ σ.1 (7 + 2 * l) 9 = 0 ∧ σ.1 (7 + 2 * l) 4 = tr)) (cntC σ) (i + 1)))), (3, .int (iN q))] : List (Nat × Value))) (show ((i : Nat) : Int) + 1 = (((i + 1) : Nat) : Int) from by omega)) ?_
        exact kk _ _ ⟨rfl, rfl, trivial⟩
      · skip
        refine V_aload_n X 0 rfl dX0_leastOn_37 rfl ?_
        refine V_iload_n X 3 rfl dX0_leastOn_38 rfl ?_
        refine V_iload_n X 2 rfl dX0_leastOn_39 rfl ?_
        have hbb := bestF_b (sel := fun l => decide (¬ σ.1 (7 + 2 * l) 9 = 0 ∧ σ.1 (7 + 2 * l) 4 = tr)) (cnt := cntC σ) i
        refine V_callV_I X (na := 2) (ci := 0) (b0 := 5) (by decide) (rfl) (by decide) rfl (m_X0_isAhead g l hl9 σ hR n hLB (i : Int) (bestF (fun l => decide (¬ σ.1 (7 + 2 * l) 9 = 0 ∧ σ.1 (7 + 2 * l) 4 = tr)) (cntC σ) i) ⟨by omega, by omega⟩ ⟨by omega, by omega⟩) gX0_leastOn_X0_isAhead rfl rfl rfl (by decide +kernel) ⟨Nat.le_of_ble_eq_true rfl, Nat.le_of_ble_eq_true rfl⟩ rfl rfl (Nat.le_of_ble_eq_true rfl) ⟨Nat.le_of_ble_eq_true rfl, Nat.le_of_ble_eq_true rfl⟩ dX0_leastOn_40 (fun z3 u4 z3r hp5 => ?_)
        obtain ⟨hz9, hu6⟩ := hp5
        have hu6 := hu6.symm
        subst hu6
        have hsl : (fun l => decide (¬ σ.1 (7 + 2 * l) 9 = 0 ∧ σ.1 (7 + 2 * l) 4 = tr)) i = true := by simp; omega
        rcases Classical.em (ahd (cntC σ) n ((i : Nat) : Int) (bestF (fun l => decide (¬ σ.1 (7 + 2 * l) 9 = 0 ∧ σ.1 (7 + 2 * l) 4 = tr)) (cntC σ) i)) with hhs | hhs
        · skip
          rw [if_pos hhs] at hz9
          subst hz9
          refine V_if_eq X 48 ⟨by decide, by decide⟩ dX0_leastOn_43 (by decide) (fun h => absurd h (by first | decide | omega)) (fun _ => ?_)
          refine V_iload_n X 3 rfl dX0_leastOn_46 rfl ?_
          refine V_istore_n X [(2, .int (iN (((i : Nat) : Int)))), (0, .ref (ga g (5))), (1, .int (iN (tr))), (3, .int (iN (((i : Nat) : Int))))] dX0_leastOn_47 rfl (by decide) rfl ?_
          refine V_iinc X [(3, .int (iN (((i : Nat) : Int) + 1))), (2, .int (iN (((i : Nat) : Int)))), (0, .ref (ga g (5))), (1, .int (iN (tr)))] 3 (((i : Nat) : Int) + 1) (rfl) rfl dX0_leastOn_48 (by decide) rfl ?_
          refine V_goto X 4 dX0_leastOn_51 (by decide) ?_
          refine V_sub (lv' := [(0, .ref (ga g (5))), (1, .int (iN (tr))), (2, .int (iN (((i : Nat) : Int)))), (3, .int (iN (((i : Nat) : Int) + 1)))]) [2, 3, 1, 0] rfl ?_
          refine V_lv (congrArg (fun q : Int => ([(0, .ref (ga g (5))), (1, .int (iN (tr))), (2, .int (iN q)), (3, .int (iN (((i : Nat) : Int) + 1)))] : List (Nat × Value))) (show ((i : Nat) : Int) = bestF (fun l => decide (¬ σ.1 (7 + 2 * l) 9 = 0 ∧ σ.1 (7 + 2 * l) 4 = tr)) (cntC σ) (i + 1) from best_y hsl hhs hiN)) ?_
          refine V_lv (congrArg (fun q : Int => ([(0, .ref (ga g (5))), (1, .int (iN (tr))), (2, .int (iN (bestF (fun l => decide (¬ σ.1 (7 + 2 * l) 9 = 0 ∧ σ.1 (7 + 2 * l) 4 = tr)) (cntC σ) (i + 1)))), (3, .int (iN q))] : List (Nat × Value))) (show ((i : Nat) : Int) + 1 = (((i + 1) : Nat) : Int) from by omega)) ?_
          exact kk _ _ ⟨rfl, rfl, trivial⟩
        · skip
          rw [if_neg hhs] at hz9
          subst hz9
          refine V_if_eq X 48 ⟨by decide, by decide⟩ dX0_leastOn_43 (by decide) (fun _ => ?_) (fun h => absurd h (by first | decide | omega))
          refine V_iinc X [(3, .int (iN (((i : Nat) : Int) + 1))), (0, .ref (ga g (5))), (1, .int (iN (tr))), (2, .int (iN (bestF (fun l => decide (¬ σ.1 (7 + 2 * l) 9 = 0 ∧ σ.1 (7 + 2 * l) 4 = tr)) (cntC σ) i)))] 3 (((i : Nat) : Int) + 1) (rfl) rfl dX0_leastOn_48 (by decide) rfl ?_
          refine V_goto X 4 dX0_leastOn_51 (by decide) ?_
          refine V_sub (lv' := [(0, .ref (ga g (5))), (1, .int (iN (tr))), (2, .int (iN (bestF (fun l => decide (¬ σ.1 (7 + 2 * l) 9 = 0 ∧ σ.1 (7 + 2 * l) 4 = tr)) (cntC σ) i))), (3, .int (iN (((i : Nat) : Int) + 1)))]) [1, 2, 3, 0] rfl ?_
          refine V_lv (congrArg (fun q : Int => ([(0, .ref (ga g (5))), (1, .int (iN (tr))), (2, .int (iN q)), (3, .int (iN (((i : Nat) : Int) + 1)))] : List (Nat × Value))) (show bestF (fun l => decide (¬ σ.1 (7 + 2 * l) 9 = 0 ∧ σ.1 (7 + 2 * l) 4 = tr)) (cntC σ) i = bestF (fun l => decide (¬ σ.1 (7 + 2 * l) 9 = 0 ∧ σ.1 (7 + 2 * l) 4 = tr)) (cntC σ) (i + 1) from best_n hhs hiN)) ?_
          refine V_lv (congrArg (fun q : Int => ([(0, .ref (ga g (5))), (1, .int (iN (tr))), (2, .int (iN (bestF (fun l => decide (¬ σ.1 (7 + 2 * l) 9 = 0 ∧ σ.1 (7 + 2 * l) 4 = tr)) (cntC σ) (i + 1)))), (3, .int (iN q))] : List (Nat × Value))) (show ((i : Nat) : Int) + 1 = (((i + 1) : Nat) : Int) from by omega)) ?_
          exact kk _ _ ⟨rfl, rfl, trivial⟩
