/-! ===== the game's methods: reads and small writes ===== -/
def tyS (σ : St) (c : Int) (ty i : Nat) : St := (fun b => if b = 3 then (fun k => if ty ≤ k ∧ k < i then c else σ.1 3 k) else σ.1 b, σ.2)
theorem tyS_0 {σ : St} {c : Int} {ty : Nat} : tyS σ c ty ty = σ := by
  unfold tyS
  have : (fun b => if b = 3 then (fun k => if ty ≤ k ∧ k < ty then c else σ.1 3 k) else σ.1 b) = σ.1 := by
    funext b
    by_cases h : b = 3
    · subst h; funext k; simp; omega
    · simp [h]
  rw [this]
theorem tyS_s {σ : St} {c : Int} {ty i : Nat} (hi : ty ≤ i) : sw (tyS σ c ty i) 3 i c = tyS σ c ty (i + 1) := by
  unfold tyS sw ur
  simp only
  congr 1
  funext b
  by_cases h : b = 3
  · subst h
    simp only [if_true]
    funext k
    by_cases h1 : k = i
    · subst h1; simp [hi]
    · by_cases h2 : ty ≤ k ∧ k < i
      · rw [if_neg h1, if_pos h2, if_pos (by omega)]
      · rw [if_neg h1, if_neg h2, if_neg (by omega)]
  · simp [h]
theorem tyS_n {σ : St} {c : Int} {ty i b k : Nat} (h : b ≠ 3) : (tyS σ c ty i).1 b k = σ.1 b k := by simp [tyS, h]
theorem tyS_3 {σ : St} {c : Int} {ty i k : Nat} : (tyS σ c ty i).1 3 k = if ty ≤ k ∧ k < i then c else σ.1 3 k := by simp [tyS]
def appF (σ : St) (t k : Nat) (len lim : Int) : St := sw (sw (sw (sw σ (73 + 3 * t) 3 (σ.1 (73 + 3 * t) 3 + len)) (73 + 3 * t + 1) k (σ.1 (73 + 3 * t) 3 + len)) (73 + 3 * t + 2) k lim) (73 + 3 * t) 2 (σ.1 (73 + 3 * t) 2 + 1)
def carF (σ : St) (c : Nat) (a b d : Int) : St := sw (sw (sw (sw σ (85 + c) 0 a) (85 + c) 1 b) (85 + c) 2 d) 0 3 (σ.1 0 3 + 1)
def opnF (σ : St) (r : Nat) (tr : Int) : St := sw (sw (sw σ 68 r tr) 67 2 (σ.1 67 1)) 67 1 (σ.1 67 1 + 1)

theorem atm_X6_lapNumbered_293 : ∀ w ∈ vx_atS RX6 293 "java/lang/IndexOutOfBoundsException" ["java/lang/RuntimeException", "java/lang/Exception"], goodWord w = true → w ∈ wsX6_lapNumbered := fun w h0 hg0 => by
  have h := List.mem_filter.mpr ⟨h0, hg0⟩
  exact List.mem_cons_of_mem _ (List.mem_append_right _ h)
set_option maxRecDepth 100000 in
set_option maxHeartbeats 4000000 in
theorem m_X6_lapNumbered (g : Geo) (l : Launch) (hl9 : l.stackTraces = false) (σ : St) (hR : RG σ) (a : Int) (ha : R32 a) (hn30 : σ.1 5 1 ≤ 30) : vx_Met l yX6_lapNumbered wsX6_lapNumbered ({ frames := 6, cells := 1, slots := 6, locals := 90 }) (va_Pc [.ref (ga g (0)), .int (iN (a))] (World g σ)) (QR g (fun b u => 0 ≤ a ∧ a < σ.1 5 1 ∧ b = 7 + 2 * a.toNat ∧ u = σ)) (XT g (fun E u => E = "java/lang/IndexOutOfBoundsException" ∧ ¬ (0 ≤ a ∧ a < σ.1 5 1) ∧ u = σ)) 1 6 (gA g) := by
  refine V_metX hl9 (by decide) rfl (Nat.le_of_ble_eq_true rfl) ?_
  intro p9 e9 s9 m9 b9 t9 c9 X hno hr
  refine V_lv (lv' := [(0, .ref (ga g (0))), (1, .int (iN (a)))]) rfl ?_
  refine V_aload_n X 0 rfl dX6_lapNumbered_0 rfl ?_
  refine V_get X (ci := 6) (0) (by decide) (rfl) (by decide) rfl (fun _ h => List.mem_cons_of_mem _ (List.mem_append_left _ (List.mem_append_left _ (List.mem_append_right _ h)))) 7 (by decide) (List.mem_of_getElem? (i := 3) rfl) rfl rfl dX6_lapNumbered_1 ?_
  refine V_iload_n X 1 rfl dX6_lapNumbered_4 rfl ?_
  refine V_callV_I X (na := 1) (ci := 0) (b0 := 5) (by decide) (rfl) (by decide) rfl (m_X0_has g l hl9 (σ) (hR) (a) (ha)) gX6_lapNumbered_X0_has rfl rfl rfl (by decide +kernel) ⟨Nat.le_of_ble_eq_true rfl, Nat.le_of_ble_eq_true rfl⟩ rfl rfl (Nat.le_of_ble_eq_true rfl) ⟨Nat.le_of_ble_eq_true rfl, Nat.le_of_ble_eq_true rfl⟩ dX6_lapNumbered_5 (fun z1 u2 z1r hp3 => ?_)
  obtain ⟨hz9, hu4⟩ := hp3
  have hu4 := hu4.symm
  subst hu4
  rcases Classical.em (0 ≤ a ∧ a < σ.1 5 1) with hh8 | hh8
  · skip
    rw [if_pos hh8] at hz9
    subst hz9
    refine V_if_ne X 22 ⟨by decide, by decide⟩ dX6_lapNumbered_8 (by decide) (fun _ => ?_) (fun h => absurd h (by first | decide | omega))
    refine V_aload_n X 0 rfl dX6_lapNumbered_22 rfl ?_
    refine V_get X (ci := 6) (0) (by decide) (rfl) (by decide) rfl (fun _ h => List.mem_cons_of_mem _ (List.mem_append_left _ (List.mem_append_left _ (List.mem_append_right _ h)))) 7 (by decide) (List.mem_of_getElem? (i := 3) rfl) rfl rfl dX6_lapNumbered_23 ?_
    refine V_get X (ci := 0) (5) (by decide) (rfl) (by decide) rfl (fun _ h => List.mem_cons_of_mem _ (List.mem_append_left _ (List.mem_append_right _ h))) 0 (by decide) (List.mem_of_getElem? (i := 4) rfl) rfl rfl dX6_lapNumbered_26 ?_
    refine V_iload_n X 1 rfl dX6_lapNumbered_29 rfl ?_
    refine V_aald16 X (6) (by decide) (rfl) (a.toNat) (by omega) (by omega) dX6_lapNumbered_30 ?_
    exact V_aretX X hr (by exact ⟨by omega, by omega, rfl, rfl⟩) dX6_lapNumbered_31 (by decide) (by decide)
  · skip
    rw [if_neg hh8] at hz9
    subst hz9
    refine V_if_ne X 22 ⟨by decide, by decide⟩ dX6_lapNumbered_8 (by decide) (fun h => absurd h (by first | decide | omega)) (fun _ => ?_)
    exact V_throwW X hno rfl (List.mem_of_getElem? (i := 31) rfl) (by decide) (List.mem_of_getElem? (i := 1) rfl) (List.mem_of_getElem? (i := 2) rfl) (atm_X6_lapNumbered_293) gb_X6_293 (List.mem_of_getElem? (i := 2) rfl) (gd_X6_293) dX6_lapNumbered_11 dX6_lapNumbered_14 dX6_lapNumbered_15 dX6_lapNumbered_18 dX6_lapNumbered_21 (Nat.le_of_ble_eq_true rfl) (Nat.le_of_ble_eq_true rfl) (Nat.le_of_ble_eq_true rfl) (Nat.le_of_ble_eq_true rfl) (by decide) (by decide) (⟨rfl, by omega, rfl⟩)
theorem atm_X6_requireDriver_293 : ∀ w ∈ vx_atS RX6 293 "java/lang/IndexOutOfBoundsException" ["java/lang/RuntimeException", "java/lang/Exception"], goodWord w = true → w ∈ wsX6_requireDriver := fun w h0 hg0 => by
  have h := List.mem_filter.mpr ⟨h0, hg0⟩
  exact List.mem_cons_of_mem _ (List.mem_append_right _ h)
set_option maxRecDepth 100000 in
set_option maxHeartbeats 4000000 in
theorem m_X6_requireDriver (g : Geo) (l : Launch) (hl9 : l.stackTraces = false) (σ : St) (hR : RG σ) (a : Int) (ha : R32 a) : vx_Met l yX6_requireDriver wsX6_requireDriver ({ frames := 6, cells := 1, slots := 6, locals := 90 }) (va_Pc [.ref (ga g (0)), .int (iN (a))] (World g σ)) (QV g (fun u => 0 ≤ a ∧ a < 6 ∧ u = σ)) (XT g (fun E u => E = "java/lang/IndexOutOfBoundsException" ∧ ¬ (0 ≤ a ∧ a < 6) ∧ u = σ)) 1 6 (gA g) := by
  refine V_metX hl9 (by decide) rfl (Nat.le_of_ble_eq_true rfl) ?_
  intro p9 e9 s9 m9 b9 t9 c9 X hno hr
  refine V_lv (lv' := [(0, .ref (ga g (0))), (1, .int (iN (a)))]) rfl ?_
  refine V_iload_n X 1 rfl dX6_requireDriver_0 rfl ?_
  refine V_if_lt X 10 ha dX6_requireDriver_1 (by decide) (fun q1 => ?_) (fun q1 => ?_)
  · skip
    exact V_throwW X hno rfl (List.mem_of_getElem? (i := 32) rfl) (by decide) (List.mem_of_getElem? (i := 1) rfl) (List.mem_of_getElem? (i := 2) rfl) (atm_X6_requireDriver_293) gb_X6_293 (List.mem_of_getElem? (i := 2) rfl) (gd_X6_293) dX6_requireDriver_10 dX6_requireDriver_13 dX6_requireDriver_14 dX6_requireDriver_17 dX6_requireDriver_20 (Nat.le_of_ble_eq_true rfl) (Nat.le_of_ble_eq_true rfl) (Nat.le_of_ble_eq_true rfl) (Nat.le_of_ble_eq_true rfl) (by decide) (by decide) (⟨rfl, by omega, rfl⟩)
  · skip
    refine V_iload_n X 1 rfl dX6_requireDriver_4 rfl ?_
    refine V_bipush X (by decide) dX6_requireDriver_5 ?_
    refine V_icmp_lt X 21 ha ⟨by decide, by decide⟩ dX6_requireDriver_7 (by decide) (fun q2 => ?_) (fun q2 => ?_)
    · skip
      exact V_vretX X hr (by exact ⟨by omega, by omega, rfl⟩) dX6_requireDriver_21 (by decide) (by decide)
    · skip
      exact V_throwW X hno rfl (List.mem_of_getElem? (i := 32) rfl) (by decide) (List.mem_of_getElem? (i := 1) rfl) (List.mem_of_getElem? (i := 2) rfl) (atm_X6_requireDriver_293) gb_X6_293 (List.mem_of_getElem? (i := 2) rfl) (gd_X6_293) dX6_requireDriver_10 dX6_requireDriver_13 dX6_requireDriver_14 dX6_requireDriver_17 dX6_requireDriver_20 (Nat.le_of_ble_eq_true rfl) (Nat.le_of_ble_eq_true rfl) (Nat.le_of_ble_eq_true rfl) (Nat.le_of_ble_eq_true rfl) (by decide) (by decide) (⟨rfl, by omega, rfl⟩)
set_option maxRecDepth 100000 in
set_option maxHeartbeats 4000000 in
theorem m_X6_ticks (g : Geo) (l : Launch) (hl9 : l.stackTraces = false) (σ : St) (hR : RG σ) (a : Int) (ha : R32 a) (hn30 : σ.1 5 1 ≤ 30) : vx_Met l yX6_ticks wsX6_ticks ({ frames := 7, cells := 1, slots := 6, locals := 111 }) (va_Pc [.ref (ga g (0)), .int (iN (a))] (World g σ)) (QI g (fun z u => 0 ≤ a ∧ a < σ.1 5 1 ∧ z = σ.1 (7 + 2 * a.toNat) 1 ∧ u = σ)) (XT g (fun E u => E = "java/lang/IndexOutOfBoundsException" ∧ ¬ (0 ≤ a ∧ a < σ.1 5 1) ∧ u = σ)) 1 6 (gA g) := by
  refine V_metX hl9 (by decide) rfl (Nat.le_of_ble_eq_true rfl) ?_
  intro p9 e9 s9 m9 b9 t9 c9 X hno hr
  refine V_lv (lv' := [(0, .ref (ga g (0))), (1, .int (iN (a)))]) rfl ?_
  refine V_aload_n X 0 rfl dX6_ticks_0 rfl ?_
  refine V_iload_n X 1 rfl dX6_ticks_1 rfl ?_
  refine V_callV_Rx X (na := 1) (ci := 6) (b0 := 0) (by decide) (rfl) (by decide) rfl (m_X6_lapNumbered g l hl9 σ hR a ha hn30) gX6_ticks_X6_lapNumbered rfl rfl rfl (by decide +kernel) ⟨Nat.le_of_ble_eq_true rfl, Nat.le_of_ble_eq_true rfl⟩ rfl rfl (Nat.le_of_ble_eq_true rfl) ⟨Nat.le_of_ble_eq_true rfl, Nat.le_of_ble_eq_true rfl⟩ dX6_ticks_2 (fun E u hp => ?_) (fun z1 u2 hp3 => ?_)
  · skip
    exact VX_out X hno (hp) (by decide) (by decide)
  · skip
    obtain ⟨h1, h2, hb, hu4⟩ := hp3
    have hu4 := hu4.symm
    subst hu4
    subst hb
    refine V_get X (ci := 2) (7 + 2 * (a).toNat) (by omega) (kd_lap (by omega)) (by decide) rfl (fun _ h => List.mem_cons_of_mem _ (List.mem_append_left _ (List.mem_append_left _ (List.mem_append_left _ (List.mem_append_right _ h))))) 1 (by decide) (List.mem_of_getElem? (i := 1) rfl) rfl rfl dX6_ticks_5 ?_
    exact V_iretX X hr rfl (hR _ _) (by exact ⟨h1, h2, rfl, rfl⟩) dX6_ticks_8 (by decide) (by decide)
set_option maxRecDepth 100000 in
set_option maxHeartbeats 4000000 in
theorem m_X6_depth (g : Geo) (l : Launch) (hl9 : l.stackTraces = false) (σ : St) (hR : RG σ) (a : Int) (ha : R32 a) (hn30 : σ.1 5 1 ≤ 30) : vx_Met l yX6_depth wsX6_depth ({ frames := 7, cells := 1, slots := 6, locals := 111 }) (va_Pc [.ref (ga g (0)), .int (iN (a))] (World g σ)) (QI g (fun z u => 0 ≤ a ∧ a < σ.1 5 1 ∧ z = σ.1 (7 + 2 * a.toNat) 11 ∧ u = σ)) (XT g (fun E u => E = "java/lang/IndexOutOfBoundsException" ∧ ¬ (0 ≤ a ∧ a < σ.1 5 1) ∧ u = σ)) 1 6 (gA g) := by
  refine V_metX hl9 (by decide) rfl (Nat.le_of_ble_eq_true rfl) ?_
  intro p9 e9 s9 m9 b9 t9 c9 X hno hr
  refine V_lv (lv' := [(0, .ref (ga g (0))), (1, .int (iN (a)))]) rfl ?_
  refine V_aload_n X 0 rfl dX6_depth_0 rfl ?_
  refine V_iload_n X 1 rfl dX6_depth_1 rfl ?_
  refine V_callV_Rx X (na := 1) (ci := 6) (b0 := 0) (by decide) (rfl) (by decide) rfl (m_X6_lapNumbered g l hl9 σ hR a ha hn30) gX6_depth_X6_lapNumbered rfl rfl rfl (by decide +kernel) ⟨Nat.le_of_ble_eq_true rfl, Nat.le_of_ble_eq_true rfl⟩ rfl rfl (Nat.le_of_ble_eq_true rfl) ⟨Nat.le_of_ble_eq_true rfl, Nat.le_of_ble_eq_true rfl⟩ dX6_depth_2 (fun E u hp => ?_) (fun z1 u2 hp3 => ?_)
  · skip
    exact VX_out X hno (hp) (by decide) (by decide)
  · skip
    obtain ⟨h1, h2, hb, hu4⟩ := hp3
    have hu4 := hu4.symm
    subst hu4
    subst hb
    refine V_get X (ci := 2) (7 + 2 * (a).toNat) (by omega) (kd_lap (by omega)) (by decide) rfl (fun _ h => List.mem_cons_of_mem _ (List.mem_append_left _ (List.mem_append_left _ (List.mem_append_left _ (List.mem_append_right _ h))))) 11 (by decide) (List.mem_of_getElem? (i := 1) rfl) rfl rfl dX6_depth_5 ?_
    exact V_iretX X hr rfl (hR _ _) (by exact ⟨h1, h2, rfl, rfl⟩) dX6_depth_8 (by decide) (by decide)
set_option maxRecDepth 100000 in
set_option maxHeartbeats 4000000 in
theorem m_X6_parts (g : Geo) (l : Launch) (hl9 : l.stackTraces = false) (σ : St) (hR : RG σ) (a : Int) (ha : R32 a) (hn30 : σ.1 5 1 ≤ 30) : vx_Met l yX6_parts wsX6_parts ({ frames := 7, cells := 1, slots := 6, locals := 111 }) (va_Pc [.ref (ga g (0)), .int (iN (a))] (World g σ)) (QI g (fun z u => 0 ≤ a ∧ a < σ.1 5 1 ∧ z = σ.1 (7 + 2 * a.toNat) 12 ∧ u = σ)) (XT g (fun E u => E = "java/lang/IndexOutOfBoundsException" ∧ ¬ (0 ≤ a ∧ a < σ.1 5 1) ∧ u = σ)) 1 6 (gA g) := by
  refine V_metX hl9 (by decide) rfl (Nat.le_of_ble_eq_true rfl) ?_
  intro p9 e9 s9 m9 b9 t9 c9 X hno hr
  refine V_lv (lv' := [(0, .ref (ga g (0))), (1, .int (iN (a)))]) rfl ?_
  refine V_aload_n X 0 rfl dX6_parts_0 rfl ?_
  refine V_iload_n X 1 rfl dX6_parts_1 rfl ?_
  refine V_callV_Rx X (na := 1) (ci := 6) (b0 := 0) (by decide) (rfl) (by decide) rfl (m_X6_lapNumbered g l hl9 σ hR a ha hn30) gX6_parts_X6_lapNumbered rfl rfl rfl (by decide +kernel) ⟨Nat.le_of_ble_eq_true rfl, Nat.le_of_ble_eq_true rfl⟩ rfl rfl (Nat.le_of_ble_eq_true rfl) ⟨Nat.le_of_ble_eq_true rfl, Nat.le_of_ble_eq_true rfl⟩ dX6_parts_2 (fun E u hp => ?_) (fun z1 u2 hp3 => ?_)
  · skip
    exact VX_out X hno (hp) (by decide) (by decide)
  · skip
    obtain ⟨h1, h2, hb, hu4⟩ := hp3
    have hu4 := hu4.symm
    subst hu4
    subst hb
    refine V_get X (ci := 2) (7 + 2 * (a).toNat) (by omega) (kd_lap (by omega)) (by decide) rfl (fun _ h => List.mem_cons_of_mem _ (List.mem_append_left _ (List.mem_append_left _ (List.mem_append_left _ (List.mem_append_right _ h))))) 12 (by decide) (List.mem_of_getElem? (i := 1) rfl) rfl rfl dX6_parts_5 ?_
    exact V_iretX X hr rfl (hR _ _) (by exact ⟨h1, h2, rfl, rfl⟩) dX6_parts_8 (by decide) (by decide)
set_option maxRecDepth 100000 in
set_option maxHeartbeats 4000000 in
theorem m_X6_stands (g : Geo) (l : Launch) (hl9 : l.stackTraces = false) (σ : St) (hR : RG σ) (a : Int) (ha : R32 a) (hn30 : σ.1 5 1 ≤ 30) (hst : ∀ l : Nat, (l : Int) < σ.1 5 1 → σ.1 (7 + 2 * l) 9 = 0 ∨ σ.1 (7 + 2 * l) 9 = 1) : vx_Met l yX6_stands wsX6_stands ({ frames := 7, cells := 1, slots := 6, locals := 111 }) (va_Pc [.ref (ga g (0)), .int (iN (a))] (World g σ)) (QI g (fun z u => 0 ≤ a ∧ a < σ.1 5 1 ∧ z = σ.1 (7 + 2 * a.toNat) 9 ∧ u = σ)) (XT g (fun E u => E = "java/lang/IndexOutOfBoundsException" ∧ ¬ (0 ≤ a ∧ a < σ.1 5 1) ∧ u = σ)) 1 6 (gA g) := by
  refine V_metX hl9 (by decide) rfl (Nat.le_of_ble_eq_true rfl) ?_
  intro p9 e9 s9 m9 b9 t9 c9 X hno hr
  refine V_lv (lv' := [(0, .ref (ga g (0))), (1, .int (iN (a)))]) rfl ?_
  refine V_aload_n X 0 rfl dX6_stands_0 rfl ?_
  refine V_iload_n X 1 rfl dX6_stands_1 rfl ?_
  refine V_callV_Rx X (na := 1) (ci := 6) (b0 := 0) (by decide) (rfl) (by decide) rfl (m_X6_lapNumbered g l hl9 σ hR a ha hn30) gX6_stands_X6_lapNumbered rfl rfl rfl (by decide +kernel) ⟨Nat.le_of_ble_eq_true rfl, Nat.le_of_ble_eq_true rfl⟩ rfl rfl (Nat.le_of_ble_eq_true rfl) ⟨Nat.le_of_ble_eq_true rfl, Nat.le_of_ble_eq_true rfl⟩ dX6_stands_2 (fun E u hp => ?_) (fun z1 u2 hp3 => ?_)
  · skip
    exact VX_out X hno (hp) (by decide) (by decide)
  · skip
    obtain ⟨h1, h2, hb, hu4⟩ := hp3
    have hu4 := hu4.symm
    subst hu4
    subst hb
    refine V_get X (ci := 2) (7 + 2 * (a).toNat) (by omega) (kd_lap (by omega)) (by decide) rfl (fun _ h => List.mem_cons_of_mem _ (List.mem_append_left _ (List.mem_append_left _ (List.mem_append_left _ (List.mem_append_right _ h))))) 9 (by decide) (List.mem_of_getElem? (i := 1) rfl) rfl rfl dX6_stands_5 ?_
    exact V_iretX X hr (iN_bool (hst a.toNat (by omega))).1 (hR _ _) (by exact ⟨h1, h2, rfl, rfl⟩) dX6_stands_8 (by decide) (by decide)
set_option maxRecDepth 100000 in
set_option maxHeartbeats 4000000 in
theorem m_X6_time (g : Geo) (l : Launch) (hl9 : l.stackTraces = false) (σ : St) (hR : RG σ) (a w : Int) (ha : R32 a) (hw : R32 w) (n : Nat) (hLB : LB σ n) : vx_Met l yX6_time wsX6_time ({ frames := 7, cells := 1, slots := 6, locals := 111 }) (va_Pc [.ref (ga g (0)), .int (iN (a)), .int (iN (w))] (World g σ)) (QI g (fun z u => 0 ≤ a ∧ a < σ.1 5 1 ∧ z = (if w = 0 then σ.1 (7 + 2 * a.toNat) 2 else cntC σ a.toNat) ∧ u = σ)) (XT g (fun E u => E = "java/lang/IndexOutOfBoundsException" ∧ ¬ (0 ≤ a ∧ a < σ.1 5 1) ∧ u = σ)) 1 6 (gA g) := by
  refine V_metX hl9 (by decide) rfl (Nat.le_of_ble_eq_true rfl) ?_
  intro p9 e9 s9 m9 b9 t9 c9 X hno hr
  have hn := hLB.1
  have hn30 : σ.1 5 1 ≤ 30 := by have := hLB.2.1; omega
  refine V_lv (lv' := [(0, .ref (ga g (0))), (1, .int (iN (a))), (2, .int (iN (w)))]) rfl ?_
  refine V_aload_n X 0 rfl dX6_time_0 rfl ?_
  refine V_iload_n X 1 rfl dX6_time_1 rfl ?_
  refine V_callV_Rx X (na := 1) (ci := 6) (b0 := 0) (by decide) (rfl) (by decide) rfl (m_X6_lapNumbered g l hl9 σ hR a ha hn30) gX6_time_X6_lapNumbered rfl rfl rfl (by decide +kernel) ⟨Nat.le_of_ble_eq_true rfl, Nat.le_of_ble_eq_true rfl⟩ rfl rfl (Nat.le_of_ble_eq_true rfl) ⟨Nat.le_of_ble_eq_true rfl, Nat.le_of_ble_eq_true rfl⟩ dX6_time_2 (fun E u hp => ?_) (fun z1 u2 hp3 => ?_)
  · skip
    exact VX_out X hno (hp) (by decide) (by decide)
  · skip
    obtain ⟨h1, h2, hb, hu4⟩ := hp3
    have hu4 := hu4.symm
    subst hu4
    subst hb
    refine V_astore_n X [(3, .ref (ga g (7 + 2 * (a).toNat))), (0, .ref (ga g (0))), (1, .int (iN (a))), (2, .int (iN (w)))] dX6_time_5 rfl (by decide) rfl ?_
    refine V_iload_n X 3 rfl dX6_time_6 rfl ?_
    refine V_if_eq X 17 hw dX6_time_7 (by decide) (fun q5 => ?_) (fun q5 => ?_)
    · skip
      refine V_aload_n X 0 rfl dX6_time_17 rfl ?_
      refine V_get X (ci := 2) (7 + 2 * (a).toNat) (by omega) (kd_lap (by omega)) (by decide) rfl (fun _ h => List.mem_cons_of_mem _ (List.mem_append_left _ (List.mem_append_left _ (List.mem_append_left _ (List.mem_append_right _ h))))) 2 (by decide) (List.mem_of_getElem? (i := 1) rfl) rfl rfl dX6_time_18 ?_
      exact V_iretX X hr rfl (hR _ _) (by exact ⟨h1, h2, by rw [if_pos (by omega)], rfl⟩) dX6_time_21 (by decide) (by decide)
    · skip
      refine V_aload_n X 0 rfl dX6_time_10 rfl ?_
      have hcb := hLB.cnt (l := a.toNat) (by omega)
      unfold cntC at hcb
      refine V_callV_I X (na := 0) (ci := 2) (b0 := 7 + 2 * (a).toNat) (by omega) (kd_lap (by omega)) (by decide) rfl (m_X2_counted g l hl9 σ hR (a.toNat) (by omega) (by omega) (by omega)) gX6_time_X2_counted rfl rfl rfl (by decide +kernel) ⟨Nat.le_of_ble_eq_true rfl, Nat.le_of_ble_eq_true rfl⟩ rfl rfl (Nat.le_of_ble_eq_true rfl) ⟨Nat.le_of_ble_eq_true rfl, Nat.le_of_ble_eq_true rfl⟩ dX6_time_11 (fun z6 u7 z6r hp8 => ?_)
      obtain ⟨hz, hu9⟩ := hp8
      have hu9 := hu9.symm
      subst hu9
      subst hz
      refine V_goto X 21 dX6_time_14 (by decide) ?_
      exact V_iretX X hr rfl ⟨by omega, by omega⟩ (by exact ⟨h1, h2, by rw [if_neg (by omega)]; rfl, rfl⟩) dX6_time_21 (by decide) (by decide)
theorem atm_X6_inputAt_113 : ∀ w ∈ vx_atN RX6 113 "java/util/NoSuchElementException" ["java/lang/RuntimeException", "java/lang/Exception"], goodWord w = true → w ∈ wsX6_inputAt := fun w h0 hg0 => by
  have h := List.mem_filter.mpr ⟨h0, hg0⟩
  exact List.mem_cons_of_mem _ (List.mem_append_left _ (List.mem_append_right _ h))
set_option maxRecDepth 100000 in
set_option maxHeartbeats 4000000 in
theorem m_X6_inputAt (g : Geo) (l : Launch) (hl9 : l.stackTraces = false) (σ : St) (hR : RG σ) (a k : Int) (ha : R32 a) (hk : R32 k) (n : Nat) (hLB : LB σ n) (hch : ∀ l, l < n → ∀ i, i < 60 → 0 ≤ σ.1 (7 + 2 * l + 1) i ∧ σ.1 (7 + 2 * l + 1) i < 65536) : vx_Met l yX6_inputAt wsX6_inputAt ({ frames := 7, cells := 2, slots := 12, locals := 111 }) (va_Pc [.ref (ga g (0)), .int (iN (a)), .int (iN (k))] (World g σ)) (QI g (fun z u => (0 ≤ a ∧ a < σ.1 5 1) ∧ 0 ≤ k ∧ k < σ.1 (7 + 2 * a.toNat) 1 ∧ z = σ.1 (7 + 2 * a.toNat + 1) k.toNat ∧ u = σ)) (XT g (fun E u => ((E = "java/lang/IndexOutOfBoundsException" ∧ ¬ (0 ≤ a ∧ a < σ.1 5 1)) ∨ (E = "java/util/NoSuchElementException" ∧ (0 ≤ a ∧ a < σ.1 5 1) ∧ ¬ (0 ≤ k ∧ k < σ.1 (7 + 2 * a.toNat) 1))) ∧ u = σ)) 2 12 (gA g) := by
  refine V_metX hl9 (by decide) rfl (Nat.le_of_ble_eq_true rfl) ?_
  intro p9 e9 s9 m9 b9 t9 c9 X hno hr
  have hn := hLB.1
  have hn30 : σ.1 5 1 ≤ 30 := by have := hLB.2.1; omega
  refine V_lv (lv' := [(0, .ref (ga g (0))), (1, .int (iN (a))), (2, .int (iN (k)))]) rfl ?_
  refine V_aload_n X 0 rfl dX6_inputAt_0 rfl ?_
  refine V_iload_n X 1 rfl dX6_inputAt_1 rfl ?_
  refine V_callV_Rx X (na := 1) (ci := 6) (b0 := 0) (by decide) (rfl) (by decide) rfl (m_X6_lapNumbered g l hl9 σ hR a ha hn30) gX6_inputAt_X6_lapNumbered rfl rfl rfl (by decide +kernel) ⟨Nat.le_of_ble_eq_true rfl, Nat.le_of_ble_eq_true rfl⟩ rfl rfl (Nat.le_of_ble_eq_true rfl) ⟨Nat.le_of_ble_eq_true rfl, Nat.le_of_ble_eq_true rfl⟩ dX6_inputAt_2 (fun E u hp => ?_) (fun z1 u2 hp3 => ?_)
  · skip
    exact VX_out X hno (⟨Or.inl ⟨hp.1, hp.2.1⟩, hp.2.2⟩) (by decide) (by decide)
  · skip
    obtain ⟨h1, h2, hb, hu4⟩ := hp3
    have hu4 := hu4.symm
    subst hu4
    subst hb
    refine V_astore_n X [(3, .ref (ga g (7 + 2 * (a).toNat))), (0, .ref (ga g (0))), (1, .int (iN (a))), (2, .int (iN (k)))] dX6_inputAt_5 rfl (by decide) rfl ?_
    refine V_iload_n X 3 rfl dX6_inputAt_6 rfl ?_
    refine V_if_lt X 18 hk dX6_inputAt_7 (by decide) (fun q5 => ?_) (fun q5 => ?_)
    · skip
      exact V_throwN X hno rfl (List.mem_of_getElem? (i := 13) rfl) (by decide) (List.mem_of_getElem? (i := 1) rfl) (List.mem_of_getElem? (i := 2) rfl) (atm_X6_inputAt_113) gb_X6_113 (List.mem_of_getElem? (i := 4) rfl) (gd_X6_113) dX6_inputAt_18 dX6_inputAt_21 dX6_inputAt_22 dX6_inputAt_24 dX6_inputAt_27 (Nat.le_of_ble_eq_true rfl) (Nat.le_of_ble_eq_true rfl) (Nat.le_of_ble_eq_true rfl) (Nat.le_of_ble_eq_true rfl) (by decide) (by decide) (⟨Or.inr ⟨rfl, by omega⟩, rfl⟩)
    · skip
      refine V_iload_n X 3 rfl dX6_inputAt_10 rfl ?_
      refine V_aload_n X 0 rfl dX6_inputAt_11 rfl ?_
      refine V_get X (ci := 2) (7 + 2 * (a).toNat) (by omega) (kd_lap (by omega)) (by decide) rfl (fun _ h => List.mem_cons_of_mem _ (List.mem_append_left _ (List.mem_append_left _ (List.mem_append_left _ (List.mem_append_left _ (List.mem_append_right _ h)))))) 1 (by decide) (List.mem_of_getElem? (i := 3) rfl) rfl rfl dX6_inputAt_12 ?_
      refine V_icmp_lt X 28 hk (hR _ _) dX6_inputAt_15 (by decide) (fun q6 => ?_) (fun q6 => ?_)
      · skip
        have hrow := hLB.2.2 a.toNat (by omega)
        have hr1 := hrow.1
        have hr2 := hrow.2.1
        have hcc := hch a.toNat (by omega) k.toNat (by omega)
        refine V_aload_n X 0 rfl dX6_inputAt_28 rfl ?_
        refine V_get X (ci := 2) (7 + 2 * (a).toNat) (by omega) (kd_lap (by omega)) (by decide) rfl (fun _ h => List.mem_cons_of_mem _ (List.mem_append_left _ (List.mem_append_left _ (List.mem_append_left _ (List.mem_append_left _ (List.mem_append_right _ h)))))) 0 (by decide) (List.mem_of_getElem? (i := 4) rfl) rfl rfl dX6_inputAt_29 ?_
        refine V_iload_n X 3 rfl dX6_inputAt_32 rfl ?_
        refine V_cald X (N := 60) (7 + 2 * (a).toNat + 1) (by omega) (kd_in (by omega)) (ln_in (by omega)) (by decide) (k.toNat) (by omega) (by omega) dX6_inputAt_33 ?_
        exact V_iretX X hr (iN_char (by omega) (by omega)).1 (hR _ _) (by exact ⟨⟨h1, h2⟩, by omega, by omega, rfl, rfl⟩) dX6_inputAt_34 (by decide) (by decide)
      · skip
        exact V_throwN X hno rfl (List.mem_of_getElem? (i := 13) rfl) (by decide) (List.mem_of_getElem? (i := 1) rfl) (List.mem_of_getElem? (i := 2) rfl) (atm_X6_inputAt_113) gb_X6_113 (List.mem_of_getElem? (i := 4) rfl) (gd_X6_113) dX6_inputAt_18 dX6_inputAt_21 dX6_inputAt_22 dX6_inputAt_24 dX6_inputAt_27 (Nat.le_of_ble_eq_true rfl) (Nat.le_of_ble_eq_true rfl) (Nat.le_of_ble_eq_true rfl) (Nat.le_of_ble_eq_true rfl) (by decide) (by decide) (⟨Or.inr ⟨rfl, by omega⟩, rfl⟩)
theorem atm_X6_beats_113 : ∀ w ∈ vx_atN RX6 113 "java/util/NoSuchElementException" ["java/lang/RuntimeException", "java/lang/Exception"], goodWord w = true → w ∈ wsX6_beats := fun w h0 hg0 => by
  have h := List.mem_filter.mpr ⟨h0, hg0⟩
  exact List.mem_cons_of_mem _ (List.mem_append_left _ (List.mem_append_right _ h))
set_option maxRecDepth 100000 in
set_option maxHeartbeats 4000000 in
theorem m_X6_beats (g : Geo) (l : Launch) (hl9 : l.stackTraces = false) (σ : St) (hR : RG σ) (a : Int) (ha : R32 a) (n : Nat) (hLB : LB σ n) : vx_Met l yX6_beats wsX6_beats ({ frames := 7, cells := 2, slots := 12, locals := 111 }) (va_Pc [.ref (ga g (0)), .int (iN (a))] (World g σ)) (QI g (fun z u => (0 ≤ a ∧ a < σ.1 5 1) ∧ (0 ≤ σ.1 (7 + 2 * a.toNat) 6 ∧ σ.1 (7 + 2 * a.toNat) 6 < σ.1 5 1) ∧ z = (if cntC σ a.toNat < cntC σ (σ.1 (7 + 2 * a.toNat) 6).toNat then 1 else 0) ∧ u = σ)) (XT g (fun E u => ((E = "java/lang/IndexOutOfBoundsException" ∧ ¬ (0 ≤ a ∧ a < σ.1 5 1)) ∨ (E = "java/util/NoSuchElementException" ∧ (0 ≤ a ∧ a < σ.1 5 1) ∧ ¬ (0 ≤ σ.1 (7 + 2 * a.toNat) 6 ∧ σ.1 (7 + 2 * a.toNat) 6 < σ.1 5 1))) ∧ u = σ)) 2 12 (gA g) := by
  refine V_metX hl9 (by decide) rfl (Nat.le_of_ble_eq_true rfl) ?_
  intro p9 e9 s9 m9 b9 t9 c9 X hno hr
  have hn := hLB.1
  have hn30 : σ.1 5 1 ≤ 30 := by have := hLB.2.1; omega
  refine V_lv (lv' := [(0, .ref (ga g (0))), (1, .int (iN (a)))]) rfl ?_
  refine V_aload_n X 0 rfl dX6_beats_0 rfl ?_
  refine V_iload_n X 1 rfl dX6_beats_1 rfl ?_
  refine V_callV_Rx X (na := 1) (ci := 6) (b0 := 0) (by decide) (rfl) (by decide) rfl (m_X6_lapNumbered g l hl9 σ hR a ha hn30) gX6_beats_X6_lapNumbered rfl rfl rfl (by decide +kernel) ⟨Nat.le_of_ble_eq_true rfl, Nat.le_of_ble_eq_true rfl⟩ rfl rfl (Nat.le_of_ble_eq_true rfl) ⟨Nat.le_of_ble_eq_true rfl, Nat.le_of_ble_eq_true rfl⟩ dX6_beats_2 (fun E u hp => ?_) (fun z1 u2 hp3 => ?_)
  · skip
    exact VX_out X hno (⟨Or.inl ⟨hp.1, hp.2.1⟩, hp.2.2⟩) (by decide) (by decide)
  · skip
    obtain ⟨h1, h2, hb, hu4⟩ := hp3
    have hu4 := hu4.symm
    subst hu4
    subst hb
    refine V_astore_n X [(2, .ref (ga g (7 + 2 * (a).toNat))), (0, .ref (ga g (0))), (1, .int (iN (a)))] dX6_beats_5 rfl (by decide) rfl ?_
    refine V_aload_n X 1 rfl dX6_beats_6 rfl ?_
    refine V_get X (ci := 6) (0) (by decide) (rfl) (by decide) rfl (fun _ h => List.mem_cons_of_mem _ (List.mem_append_left _ (List.mem_append_left _ (List.mem_append_left _ (List.mem_append_left _ (List.mem_append_right _ h)))))) 7 (by decide) (List.mem_of_getElem? (i := 3) rfl) rfl rfl dX6_beats_7 ?_
    refine V_aload_n X 0 rfl dX6_beats_10 rfl ?_
    refine V_get X (ci := 2) (7 + 2 * (a).toNat) (by omega) (kd_lap (by omega)) (by decide) rfl (fun _ h => List.mem_cons_of_mem _ (List.mem_append_left _ (List.mem_append_left _ (List.mem_append_left _ (List.mem_append_right _ h))))) 6 (by decide) (List.mem_of_getElem? (i := 4) rfl) rfl rfl dX6_beats_11 ?_
    refine V_callV_I X (na := 1) (ci := 0) (b0 := 5) (by decide) (rfl) (by decide) rfl (m_X0_has g l hl9 (σ) (hR) (σ.1 (7 + 2 * a.toNat) 6) ((hR _ _))) gX6_beats_X0_has rfl rfl rfl (by decide +kernel) ⟨Nat.le_of_ble_eq_true rfl, Nat.le_of_ble_eq_true rfl⟩ rfl rfl (Nat.le_of_ble_eq_true rfl) ⟨Nat.le_of_ble_eq_true rfl, Nat.le_of_ble_eq_true rfl⟩ dX6_beats_14 (fun z5 u6 z5r hp7 => ?_)
    obtain ⟨hz9, hu8⟩ := hp7
    have hu8 := hu8.symm
    subst hu8
    rcases Classical.em (0 ≤ σ.1 (7 + 2 * a.toNat) 6 ∧ σ.1 (7 + 2 * a.toNat) 6 < σ.1 5 1) with hh17 | hh17
    · skip
      rw [if_pos hh17] at hz9
      subst hz9
      refine V_if_ne X 30 ⟨by decide, by decide⟩ dX6_beats_17 (by decide) (fun _ => ?_) (fun h => absurd h (by first | decide | omega))
      refine V_aload_n X 0 rfl dX6_beats_30 rfl ?_
      have hcb := hLB.cnt (l := a.toNat) (by omega)
      unfold cntC at hcb
      refine V_callV_I X (na := 0) (ci := 2) (b0 := 7 + 2 * (a).toNat) (by omega) (kd_lap (by omega)) (by decide) rfl (m_X2_counted g l hl9 σ hR (a.toNat) (by omega) (by omega) (by omega)) gX6_beats_X2_counted rfl rfl rfl (by decide +kernel) ⟨Nat.le_of_ble_eq_true rfl, Nat.le_of_ble_eq_true rfl⟩ rfl rfl (Nat.le_of_ble_eq_true rfl) ⟨Nat.le_of_ble_eq_true rfl, Nat.le_of_ble_eq_true rfl⟩ dX6_beats_31 (fun z9 u10 z9r hp11 => ?_)
      obtain ⟨hz, hu12⟩ := hp11
      have hu12 := hu12.symm
      subst hu12
      subst hz
      have hcb1 := hcb
      refine V_aload_n X 1 rfl dX6_beats_34 rfl ?_
      refine V_get X (ci := 6) (0) (by decide) (rfl) (by decide) rfl (fun _ h => List.mem_cons_of_mem _ (List.mem_append_left _ (List.mem_append_left _ (List.mem_append_left _ (List.mem_append_left _ (List.mem_append_right _ h)))))) 7 (by decide) (List.mem_of_getElem? (i := 3) rfl) rfl rfl dX6_beats_35 ?_
      refine V_get X (ci := 0) (5) (by decide) (rfl) (by decide) rfl (fun _ h => List.mem_cons_of_mem _ (List.mem_append_left _ (List.mem_append_left _ (List.mem_append_right _ h)))) 0 (by decide) (List.mem_of_getElem? (i := 5) rfl) rfl rfl dX6_beats_38 ?_
      refine V_aload_n X 0 rfl dX6_beats_41 rfl ?_
      refine V_get X (ci := 2) (7 + 2 * (a).toNat) (by omega) (kd_lap (by omega)) (by decide) rfl (fun _ h => List.mem_cons_of_mem _ (List.mem_append_left _ (List.mem_append_left _ (List.mem_append_left _ (List.mem_append_right _ h))))) 6 (by decide) (List.mem_of_getElem? (i := 4) rfl) rfl rfl dX6_beats_42 ?_
      refine V_aald16 X (6) (by decide) (rfl) ((σ.1 (7 + 2 * a.toNat) 6).toNat) (by omega) (by omega) dX6_beats_45 ?_
      have hcb := hLB.cnt (l := (σ.1 (7 + 2 * a.toNat) 6).toNat) (by omega)
      unfold cntC at hcb
      refine V_callV_I X (na := 0) (ci := 2) (b0 := 7 + 2 * ((σ.1 (7 + 2 * a.toNat) 6).toNat)) (by omega) (kd_lap (by omega)) (by decide) rfl (m_X2_counted g l hl9 σ hR ((σ.1 (7 + 2 * a.toNat) 6).toNat) (by omega) (by omega) (by omega)) gX6_beats_X2_counted rfl rfl rfl (by decide +kernel) ⟨Nat.le_of_ble_eq_true rfl, Nat.le_of_ble_eq_true rfl⟩ rfl rfl (Nat.le_of_ble_eq_true rfl) ⟨Nat.le_of_ble_eq_true rfl, Nat.le_of_ble_eq_true rfl⟩ dX6_beats_46 (fun z13 u14 z13r hp15 => ?_)
      obtain ⟨hz, hu16⟩ := hp15
      have hu16 := hu16.symm
      subst hu16
      subst hz
      refine V_icmp_ge X 56 ⟨by omega, by omega⟩ ⟨by omega, by omega⟩ dX6_beats_49 (by decide) (fun q17 => ?_) (fun q17 => ?_)
      · skip
        refine V_iconst X dX6_beats_56 ?_
        exact V_iretX X hr (iN_bool (Or.inl rfl)).1 ⟨by decide, by decide⟩ (by exact ⟨⟨h1, h2⟩, by omega, by rw [if_neg (by unfold cntC; omega)], rfl⟩) dX6_beats_57 (by decide) (by decide)
      · skip
        refine V_iconst X dX6_beats_52 ?_
        refine V_goto X 57 dX6_beats_53 (by decide) ?_
        exact V_iretX X hr (iN_bool (Or.inr rfl)).1 ⟨by decide, by decide⟩ (by exact ⟨⟨h1, h2⟩, by omega, by rw [if_pos (by unfold cntC; omega)], rfl⟩) dX6_beats_57 (by decide) (by decide)
    · skip
      rw [if_neg hh17] at hz9
      subst hz9
      refine V_if_ne X 30 ⟨by decide, by decide⟩ dX6_beats_17 (by decide) (fun h => absurd h (by first | decide | omega)) (fun _ => ?_)
      exact V_throwN X hno rfl (List.mem_of_getElem? (i := 16) rfl) (by decide) (List.mem_of_getElem? (i := 1) rfl) (List.mem_of_getElem? (i := 2) rfl) (atm_X6_beats_113) gb_X6_113 (List.mem_of_getElem? (i := 4) rfl) (gd_X6_113) dX6_beats_20 dX6_beats_23 dX6_beats_24 dX6_beats_26 dX6_beats_29 (Nat.le_of_ble_eq_true rfl) (Nat.le_of_ble_eq_true rfl) (Nat.le_of_ble_eq_true rfl) (Nat.le_of_ble_eq_true rfl) (by decide) (by decide) (⟨Or.inr ⟨rfl, by omega⟩, rfl⟩)
theorem atm_X6_least_113 : ∀ w ∈ vx_atN RX6 113 "java/util/NoSuchElementException" ["java/lang/RuntimeException", "java/lang/Exception"], goodWord w = true → w ∈ wsX6_least := fun w h0 hg0 => by
  have h := List.mem_filter.mpr ⟨h0, hg0⟩
  exact List.mem_cons_of_mem _ (List.mem_append_left _ (List.mem_append_right _ h))
set_option maxRecDepth 100000 in
set_option maxHeartbeats 4000000 in
theorem m_X6_least (g : Geo) (l : Launch) (hl9 : l.stackTraces = false) (σ : St) (hR : RG σ) (a : Int) (ha : R32 a) (hT4 : σ.1 0 1 ≤ 4) (n : Nat) (hLB : LB σ n) : vx_Met l yX6_least wsX6_least ({ frames := 7, cells := 2, slots := 12, locals := 111 }) (va_Pc [.ref (ga g (0)), .int (iN (a))] (World g σ)) (QI g (fun z u => (0 ≤ a ∧ a < σ.1 0 1) ∧ ¬ bestF (fun l => decide (¬ σ.1 (7 + 2 * l) 9 = 0 ∧ σ.1 (7 + 2 * l) 4 = a)) (cntC σ) n = -1 ∧ z = bestF (fun l => decide (¬ σ.1 (7 + 2 * l) 9 = 0 ∧ σ.1 (7 + 2 * l) 4 = a)) (cntC σ) n ∧ u = σ)) (XT g (fun E u => ((E = "java/lang/IndexOutOfBoundsException" ∧ ¬ (0 ≤ a ∧ a < σ.1 0 1)) ∨ (E = "java/util/NoSuchElementException" ∧ (0 ≤ a ∧ a < σ.1 0 1) ∧ bestF (fun l => decide (¬ σ.1 (7 + 2 * l) 9 = 0 ∧ σ.1 (7 + 2 * l) 4 = a)) (cntC σ) n = -1)) ∧ u = σ)) 2 12 (gA g) := by
  refine V_metX hl9 (by decide) rfl (Nat.le_of_ble_eq_true rfl) ?_
  intro p9 e9 s9 m9 b9 t9 c9 X hno hr
  have hn := hLB.1
  have hn30 : σ.1 5 1 ≤ 30 := by have := hLB.2.1; omega
  refine V_lv (lv' := [(0, .ref (ga g (0))), (1, .int (iN (a)))]) rfl ?_
  refine V_aload_n X 0 rfl dX6_least_0 rfl ?_
  refine V_iload_n X 1 rfl dX6_least_1 rfl ?_
  refine V_callV_Rx X (na := 1) (ci := 6) (b0 := 0) (by decide) (rfl) (by decide) rfl (m_X6_trackNumbered g l hl9 σ hR a ha hT4) gX6_least_X6_trackNumbered rfl rfl rfl (by decide +kernel) ⟨Nat.le_of_ble_eq_true rfl, Nat.le_of_ble_eq_true rfl⟩ rfl rfl (Nat.le_of_ble_eq_true rfl) ⟨Nat.le_of_ble_eq_true rfl, Nat.le_of_ble_eq_true rfl⟩ dX6_least_2 (fun E u hp => ?_) (fun z1 u2 hp3 => ?_)
  · skip
    exact VX_out X hno (⟨Or.inl ⟨hp.1, hp.2.1⟩, hp.2.2⟩) (by decide) (by decide)
  · skip
    obtain ⟨h1, h2, hb, hu4⟩ := hp3
    have hu4 := hu4.symm
    subst hu4
    subst hb
    refine V_pop X rfl dX6_least_5 ?_
    refine V_aload_n X 0 rfl dX6_least_6 rfl ?_
    refine V_get X (ci := 6) (0) (by decide) (rfl) (by decide) rfl (fun _ h => List.mem_cons_of_mem _ (List.mem_append_left _ (List.mem_append_left _ (List.mem_append_left _ (List.mem_append_left _ (List.mem_append_right _ h)))))) 7 (by decide) (List.mem_of_getElem? (i := 3) rfl) rfl rfl dX6_least_7 ?_
    refine V_iload_n X 1 rfl dX6_least_10 rfl ?_
    refine V_callV_I X (na := 1) (ci := 0) (b0 := 5) (by decide) (rfl) (by decide) rfl (m_X0_leastOn g l hl9 σ hR n hLB a ha) gX6_least_X0_leastOn rfl rfl rfl (by decide +kernel) ⟨Nat.le_of_ble_eq_true rfl, Nat.le_of_ble_eq_true rfl⟩ rfl rfl (Nat.le_of_ble_eq_true rfl) ⟨Nat.le_of_ble_eq_true rfl, Nat.le_of_ble_eq_true rfl⟩ dX6_least_11 (fun z5 u6 z5r hp7 => ?_)
    obtain ⟨hz, hu8⟩ := hp7
    have hu8 := hu8.symm
    subst hu8
    subst hz
    have hbn := bestF_b (sel := fun l => decide (¬ σ.1 (7 + 2 * l) 9 = 0 ∧ σ.1 (7 + 2 * l) 4 = a)) (cnt := cntC σ) n
    refine V_istore_n X [(2, .int (iN (bestF (fun l => decide (¬ σ.1 (7 + 2 * l) 9 = 0 ∧ σ.1 (7 + 2 * l) 4 = a)) (cntC σ) n))), (0, .ref (ga g (0))), (1, .int (iN (a)))] dX6_least_14 rfl (by decide) rfl ?_
    refine V_iload_n X 0 rfl dX6_least_15 rfl ?_
    refine V_iconst X dX6_least_16 ?_
    refine V_icmp_ne X 30 ⟨by omega, by omega⟩ ⟨by decide, by decide⟩ dX6_least_17 (by decide) (fun q9 => ?_) (fun q9 => ?_)
    · skip
      refine V_iload_n X 0 rfl dX6_least_30 rfl ?_
      exact V_iretX X hr rfl ⟨by omega, by omega⟩ (by exact ⟨⟨h1, h2⟩, by omega, rfl, rfl⟩) dX6_least_31 (by decide) (by decide)
    · skip
      exact V_throwN X hno rfl (List.mem_of_getElem? (i := 17) rfl) (by decide) (List.mem_of_getElem? (i := 1) rfl) (List.mem_of_getElem? (i := 2) rfl) (atm_X6_least_113) gb_X6_113 (List.mem_of_getElem? (i := 4) rfl) (gd_X6_113) dX6_least_20 dX6_least_23 dX6_least_24 dX6_least_26 dX6_least_29 (Nat.le_of_ble_eq_true rfl) (Nat.le_of_ble_eq_true rfl) (Nat.le_of_ble_eq_true rfl) (Nat.le_of_ble_eq_true rfl) (by decide) (by decide) (⟨Or.inr ⟨rfl, ⟨h1, h2⟩, by omega⟩, rfl⟩)
theorem atm_X6_base_113 : ∀ w ∈ vx_atN RX6 113 "java/util/NoSuchElementException" ["java/lang/RuntimeException", "java/lang/Exception"], goodWord w = true → w ∈ wsX6_base := fun w h0 hg0 => by
  have h := List.mem_filter.mpr ⟨h0, hg0⟩
  exact List.mem_cons_of_mem _ (List.mem_append_left _ (List.mem_append_right _ h))
set_option maxRecDepth 100000 in
set_option maxHeartbeats 4000000 in
theorem m_X6_base (g : Geo) (l : Launch) (hl9 : l.stackTraces = false) (σ : St) (hR : RG σ) (a : Int) (ha : R32 a) (hn30 : σ.1 5 1 ≤ 30) : vx_Met l yX6_base wsX6_base ({ frames := 7, cells := 2, slots := 12, locals := 111 }) (va_Pc [.ref (ga g (0)), .int (iN (a))] (World g σ)) (QI g (fun z u => (0 ≤ a ∧ a < σ.1 5 1) ∧ ¬ σ.1 (7 + 2 * a.toNat) 10 = -1 ∧ z = σ.1 (7 + 2 * a.toNat) 10 ∧ u = σ)) (XT g (fun E u => ((E = "java/lang/IndexOutOfBoundsException" ∧ ¬ (0 ≤ a ∧ a < σ.1 5 1)) ∨ (E = "java/util/NoSuchElementException" ∧ (0 ≤ a ∧ a < σ.1 5 1) ∧ σ.1 (7 + 2 * a.toNat) 10 = -1)) ∧ u = σ)) 2 12 (gA g) := by
  refine V_metX hl9 (by decide) rfl (Nat.le_of_ble_eq_true rfl) ?_
  intro p9 e9 s9 m9 b9 t9 c9 X hno hr
  refine V_lv (lv' := [(0, .ref (ga g (0))), (1, .int (iN (a)))]) rfl ?_
  refine V_aload_n X 0 rfl dX6_base_0 rfl ?_
  refine V_iload_n X 1 rfl dX6_base_1 rfl ?_
  refine V_callV_Rx X (na := 1) (ci := 6) (b0 := 0) (by decide) (rfl) (by decide) rfl (m_X6_lapNumbered g l hl9 σ hR a ha hn30) gX6_base_X6_lapNumbered rfl rfl rfl (by decide +kernel) ⟨Nat.le_of_ble_eq_true rfl, Nat.le_of_ble_eq_true rfl⟩ rfl rfl (Nat.le_of_ble_eq_true rfl) ⟨Nat.le_of_ble_eq_true rfl, Nat.le_of_ble_eq_true rfl⟩ dX6_base_2 (fun E u hp => ?_) (fun z1 u2 hp3 => ?_)
  · skip
    exact VX_out X hno (⟨Or.inl ⟨hp.1, hp.2.1⟩, hp.2.2⟩) (by decide) (by decide)
  · skip
    obtain ⟨h1, h2, hb, hu4⟩ := hp3
    have hu4 := hu4.symm
    subst hu4
    subst hb
    refine V_astore_n X [(2, .ref (ga g (7 + 2 * (a).toNat))), (0, .ref (ga g (0))), (1, .int (iN (a)))] dX6_base_5 rfl (by decide) rfl ?_
    refine V_aload_n X 0 rfl dX6_base_6 rfl ?_
    refine V_get X (ci := 2) (7 + 2 * (a).toNat) (by omega) (kd_lap (by omega)) (by decide) rfl (fun _ h => List.mem_cons_of_mem _ (List.mem_append_left _ (List.mem_append_left _ (List.mem_append_left _ (List.mem_append_left _ (List.mem_append_right _ h)))))) 10 (by decide) (List.mem_of_getElem? (i := 3) rfl) rfl rfl dX6_base_7 ?_
    refine V_iconst X dX6_base_10 ?_
    refine V_icmp_ne X 24 (hR _ _) ⟨by decide, by decide⟩ dX6_base_11 (by decide) (fun q5 => ?_) (fun q5 => ?_)
    · skip
      refine V_aload_n X 0 rfl dX6_base_24 rfl ?_
      refine V_get X (ci := 2) (7 + 2 * (a).toNat) (by omega) (kd_lap (by omega)) (by decide) rfl (fun _ h => List.mem_cons_of_mem _ (List.mem_append_left _ (List.mem_append_left _ (List.mem_append_left _ (List.mem_append_left _ (List.mem_append_right _ h)))))) 10 (by decide) (List.mem_of_getElem? (i := 3) rfl) rfl rfl dX6_base_25 ?_
      exact V_iretX X hr rfl (hR _ _) (by exact ⟨⟨h1, h2⟩, by omega, rfl, rfl⟩) dX6_base_28 (by decide) (by decide)
    · skip
      exact V_throwN X hno rfl (List.mem_of_getElem? (i := 18) rfl) (by decide) (List.mem_of_getElem? (i := 1) rfl) (List.mem_of_getElem? (i := 2) rfl) (atm_X6_base_113) gb_X6_113 (List.mem_of_getElem? (i := 4) rfl) (gd_X6_113) dX6_base_14 dX6_base_17 dX6_base_18 dX6_base_20 dX6_base_23 (Nat.le_of_ble_eq_true rfl) (Nat.le_of_ble_eq_true rfl) (Nat.le_of_ble_eq_true rfl) (Nat.le_of_ble_eq_true rfl) (by decide) (by decide) (⟨Or.inr ⟨rfl, ⟨h1, h2⟩, by omega⟩, rfl⟩)
set_option maxRecDepth 100000 in
set_option maxHeartbeats 4000000 in
theorem m_X6_stored (g : Geo) (l : Launch) (hl9 : l.stackTraces = false) (σ : St) (hR : RG σ) (n : Nat) (hn : σ.1 5 1 = (n : Int)) (hn30 : n ≤ 30) (hsb : -2147483648 ≤ sumF (fun l => σ.1 (7 + 2 * l) 12) n) (hsc : sumF (fun l => σ.1 (7 + 2 * l) 12) n ≤ 2147483647) : Met l yX6_stored wsX6_stored ({ frames := 0, cells := 0, slots := 0, locals := 0 }) (va_Pc [.ref (ga g (0))] (World g σ)) (QI g (fun z u => z = sumF (fun l => σ.1 (7 + 2 * l) 12) n ∧ u = σ)) 0 0 (gA g) := by
  refine V_met hl9 (by decide) rfl (Nat.le_of_ble_eq_true rfl) ?_
  intro p9 e9 s9 m9 b9 t9 c9 X hr _
  refine V_lv (lv' := [(0, .ref (ga g (0)))]) rfl ?_
  refine V_iconst X dX6_stored_0 ?_
  refine V_istore_n X [(1, .int (iN (0))), (0, .ref (ga g (0)))] dX6_stored_1 rfl (by decide) rfl ?_
  refine V_iconst X dX6_stored_2 ?_
  refine V_istore_n X [(2, .int (iN (0))), (1, .int (iN (0))), (0, .ref (ga g (0)))] dX6_stored_3 rfl (by decide) rfl ?_
  refine V_sub (lv' := [(0, .ref (ga g (0))), (1, .int (iN (0))), (2, .int (iN (0)))]) [2, 1, 0] rfl ?_
  refine V_up (N := n) (fun (i : Nat) (u : St) (lw : List (Nat × Value)) => σ = u ∧ [(0, .ref (ga g (0))), (1, .int (iN (sumF (fun l => σ.1 (7 + 2 * l) 12) i))), (2, .int (iN (((i : Nat) : Int))))] = lw ∧ (True)) (i0 := 0) (Nat.zero_le _) ⟨rfl, rfl, trivial⟩ ?_ ?_
  · skip
    rintro _ _ ⟨rfl, rfl, -⟩
    refine V_iload_n X 2 rfl dX6_stored_4 rfl ?_
    refine V_aload_n X 0 rfl dX6_stored_5 rfl ?_
    refine V_get X (ci := 6) (0) (by decide) (rfl) (by decide) rfl (fun _ h => List.mem_cons_of_mem _ (List.mem_append_left _ (List.mem_append_left _ (List.mem_append_right _ h)))) 7 (by decide) (List.mem_of_getElem? (i := 1) rfl) rfl rfl dX6_stored_6 ?_
    refine V_get X (ci := 0) (5) (by decide) (rfl) (by decide) rfl (fun _ h => List.mem_cons_of_mem _ (List.mem_append_left _ (List.mem_append_right _ h))) 1 (by decide) (List.mem_of_getElem? (i := 2) rfl) rfl rfl dX6_stored_9 ?_
    refine V_icmp_ge X 36 ⟨by omega, by omega⟩ (hR _ _) dX6_stored_12 (by decide) (fun _ => ?_) (fun h => absurd h (by omega))
    refine V_iload_n X 1 rfl dX6_stored_36 rfl ?_
    exact V_iret X hr rfl ⟨by omega, by omega⟩ (by exact ⟨rfl, rfl⟩) dX6_stored_37 (by decide) (by decide)
  · skip
    rintro i _ _ hiN ⟨rfl, rfl, -⟩ kk
    refine V_iload_n X 2 rfl dX6_stored_4 rfl ?_
    refine V_aload_n X 0 rfl dX6_stored_5 rfl ?_
    refine V_get X (ci := 6) (0) (by decide) (rfl) (by decide) rfl (fun _ h => List.mem_cons_of_mem _ (List.mem_append_left _ (List.mem_append_left _ (List.mem_append_right _ h)))) 7 (by decide) (List.mem_of_getElem? (i := 1) rfl) rfl rfl dX6_stored_6 ?_
    refine V_get X (ci := 0) (5) (by decide) (rfl) (by decide) rfl (fun _ h => List.mem_cons_of_mem _ (List.mem_append_left _ (List.mem_append_right _ h))) 1 (by decide) (List.mem_of_getElem? (i := 2) rfl) rfl rfl dX6_stored_9 ?_
    refine V_icmp_ge X 36 ⟨by omega, by omega⟩ (hR _ _) dX6_stored_12 (by decide) (fun h => absurd h (by omega)) (fun _ => ?_)
    refine V_iload_n X 1 rfl dX6_stored_15 rfl ?_
    refine V_aload_n X 0 rfl dX6_stored_16 rfl ?_
    refine V_get X (ci := 6) (0) (by decide) (rfl) (by decide) rfl (fun _ h => List.mem_cons_of_mem _ (List.mem_append_left _ (List.mem_append_left _ (List.mem_append_right _ h)))) 7 (by decide) (List.mem_of_getElem? (i := 1) rfl) rfl rfl dX6_stored_17 ?_
    refine V_get X (ci := 0) (5) (by decide) (rfl) (by decide) rfl (fun _ h => List.mem_cons_of_mem _ (List.mem_append_left _ (List.mem_append_right _ h))) 0 (by decide) (List.mem_of_getElem? (i := 3) rfl) rfl rfl dX6_stored_20 ?_
    refine V_iload_n X 2 rfl dX6_stored_23 rfl ?_
    refine V_aald16 X (6) (by decide) (rfl) (i) (rfl) (by omega) dX6_stored_24 ?_
    refine V_get X (ci := 2) (7 + 2 * i) (by omega) (kd_lap (by omega)) (by decide) rfl (fun _ h => List.mem_cons_of_mem _ (List.mem_append_right _ h)) 12 (by decide) (List.mem_of_getElem? (i := 4) rfl) rfl rfl dX6_stored_25 ?_
    refine V_iadd X dX6_stored_28 ?_
    refine V_istore_n X [(1, .int (iN ((sumF (fun l => σ.1 (7 + 2 * l) 12) i) + (σ.1 (7 + 2 * i) (12))))), (0, .ref (ga g (0))), (2, .int (iN (((i : Nat) : Int))))] dX6_stored_29 rfl (by decide) rfl ?_
    refine V_iinc X [(2, .int (iN (((i : Nat) : Int) + 1))), (1, .int (iN ((sumF (fun l => σ.1 (7 + 2 * l) 12) i) + (σ.1 (7 + 2 * i) (12))))), (0, .ref (ga g (0)))] 2 (((i : Nat) : Int) + 1) (rfl) rfl dX6_stored_30 (by decide) rfl ?_
    refine V_goto X 4 dX6_stored_33 (by decide) ?_
    refine V_sub (lv' := [(0, .ref (ga g (0))), (1, .int (iN ((sumF (fun l => σ.1 (7 + 2 * l) 12) i) + (σ.1 (7 + 2 * i) (12))))), (2, .int (iN (((i : Nat) : Int) + 1)))]) [2, 1, 0] rfl ?_
    refine V_lv (congrArg (fun q : Int => ([(0, .ref (ga g (0))), (1, .int (iN q)), (2, .int (iN (((i : Nat) : Int) + 1)))] : List (Nat × Value))) (show (sumF (fun l => σ.1 (7 + 2 * l) 12) i) + (σ.1 (7 + 2 * i) (12)) = sumF (fun l => σ.1 (7 + 2 * l) 12) (i + 1) from rfl)) ?_
    refine V_lv (congrArg (fun q : Int => ([(0, .ref (ga g (0))), (1, .int (iN (sumF (fun l => σ.1 (7 + 2 * l) 12) (i + 1)))), (2, .int (iN q))] : List (Nat × Value))) (show ((i : Nat) : Int) + 1 = (((i + 1) : Nat) : Int) from by omega)) ?_
    exact kk _ _ ⟨rfl, rfl, trivial⟩
set_option maxRecDepth 100000 in
set_option maxHeartbeats 4000000 in
theorem m_X6_resting (g : Geo) (l : Launch) (hl9 : l.stackTraces = false) (σ : St) (hR : RG σ) (a : Int) (ha : R32 a) (n : Nat) (hLB : LB σ n) : vx_Met l yX6_resting wsX6_resting ({ frames := 7, cells := 1, slots := 6, locals := 111 }) (va_Pc [.ref (ga g (0)), .int (iN (a))] (World g σ)) (QI g (fun z u => 0 ≤ a ∧ a < σ.1 5 1 ∧ z = sumF (fun l => if a.toNat < l ∧ wkS (bsC σ) n (a.toNat : Int) (l : Int) 5 = (a.toNat : Int) then 1 else 0) n ∧ u = σ)) (XT g (fun E u => E = "java/lang/IndexOutOfBoundsException" ∧ ¬ (0 ≤ a ∧ a < σ.1 5 1) ∧ u = σ)) 1 6 (gA g) := by
  refine V_metX hl9 (by decide) rfl (Nat.le_of_ble_eq_true rfl) ?_
  intro p9 e9 s9 m9 b9 t9 c9 X hno hr
  have hn := hLB.1
  have hn30 : σ.1 5 1 ≤ 30 := by have := hLB.2.1; omega
  refine V_lv (lv' := [(0, .ref (ga g (0))), (1, .int (iN (a)))]) rfl ?_
  refine V_aload_n X 0 rfl dX6_resting_0 rfl ?_
  refine V_iload_n X 1 rfl dX6_resting_1 rfl ?_
  refine V_callV_Rx X (na := 1) (ci := 6) (b0 := 0) (by decide) (rfl) (by decide) rfl (m_X6_lapNumbered g l hl9 σ hR a ha hn30) gX6_resting_X6_lapNumbered rfl rfl rfl (by decide +kernel) ⟨Nat.le_of_ble_eq_true rfl, Nat.le_of_ble_eq_true rfl⟩ rfl rfl (Nat.le_of_ble_eq_true rfl) ⟨Nat.le_of_ble_eq_true rfl, Nat.le_of_ble_eq_true rfl⟩ dX6_resting_2 (fun E u hp => ?_) (fun z1 u2 hp3 => ?_)
  · skip
    exact VX_out X hno (hp) (by decide) (by decide)
  · skip
    obtain ⟨h1, h2, hb, hu4⟩ := hp3
    have hu4 := hu4.symm
    subst hu4
    subst hb
    refine V_pop X rfl dX6_resting_5 ?_
    refine V_aload_n X 0 rfl dX6_resting_6 rfl ?_
    refine V_get X (ci := 6) (0) (by decide) (rfl) (by decide) rfl (fun _ h => List.mem_cons_of_mem _ (List.mem_append_left _ (List.mem_append_left _ (List.mem_append_left _ (List.mem_append_right _ h))))) 7 (by decide) (List.mem_of_getElem? (i := 1) rfl) rfl rfl dX6_resting_7 ?_
    refine V_iload_n X 1 rfl dX6_resting_10 rfl ?_
    refine V_top (b := ((a.toNat : Nat) : Int)) (by omega) ?_
    refine V_callV_I X (na := 1) (ci := 0) (b0 := 5) (by decide) (rfl) (by decide) rfl (m_X0_countResting g l hl9 σ hR n hn (by omega) a.toNat (by omega)) gX6_resting_X0_countResting rfl rfl rfl (by decide +kernel) ⟨Nat.le_of_ble_eq_true rfl, Nat.le_of_ble_eq_true rfl⟩ rfl rfl (Nat.le_of_ble_eq_true rfl) ⟨Nat.le_of_ble_eq_true rfl, Nat.le_of_ble_eq_true rfl⟩ dX6_resting_11 (fun z5 u6 z5r hp7 => ?_)
    obtain ⟨hz, hu8⟩ := hp7
    have hu8 := hu8.symm
    subst hu8
    exact V_iretX X hr rfl z5r (by exact ⟨h1, h2, hz, rfl⟩) dX6_resting_14 (by decide) (by decide)
