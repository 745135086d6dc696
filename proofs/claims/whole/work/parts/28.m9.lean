/-! ===== the game's methods: the steward, the season's calls, tracks, cars, inputs ===== -/
theorem LB.stand {σ : St} {n j : Nat} {v : Int} (h : LB σ n) (hj : j < 30) (hv : v = 0 ∨ v = 1) : LB (sw σ (7 + 2 * j) 9 v) n := by
  refine ⟨by rw [rd_n (by omega)]; exact h.1, h.2.1, fun l hl => ?_⟩
  have hr := h.2.2 l hl
  by_cases e : l = j
  · subst e
    obtain ⟨h1, h2, h3, h4, h5, h6, h7, h8, h9, h10, h11, h12, h13⟩ := hr
    have k : ∀ i, i ≠ 9 → (sw σ (7 + 2 * l) 9 v).1 (7 + 2 * l) i = σ.1 (7 + 2 * l) i := fun i hi => rd_k hi
    have k9 : (sw σ (7 + 2 * l) 9 v).1 (7 + 2 * l) 9 = v := rd_s
    unfold LR
    rw [k 1 (by decide), k 2 (by decide), k 8 (by decide), k9, k 10 (by decide), k 3 (by decide), k 11 (by decide)]
    exact ⟨h1, h2, h3, h4, h5, h6, hv, h8, h9, h10, h11, h12, h13⟩
  · rw [sw_ne (by omega)]; exact hr
theorem tyS_RG {σ : St} {c : Int} {ty i : Nat} (h : RG σ) (hc : R32 c) : RG (tyS σ c ty i) := by
  intro a k
  by_cases e : a = 3
  · subst e
    rw [tyS_3]
    split
    · exact hc
    · exact h _ _
  · rw [tyS_n e]; exact h _ _

theorem atm_X6_strike_80 : ∀ w ∈ vx_atS RX6 80 "java/lang/UnsupportedOperationException" ["java/lang/RuntimeException", "java/lang/Exception"], goodWord w = true → w ∈ wsX6_strike := fun w h0 hg0 => by
  have h := List.mem_filter.mpr ⟨h0, hg0⟩
  exact List.mem_cons_of_mem _ (List.mem_append_left _ (List.mem_append_right _ h))
set_option maxRecDepth 100000 in
set_option maxHeartbeats 4000000 in
theorem m_X6_strike (g : Geo) (l : Launch) (hl9 : l.stackTraces = false) (σ : St) (hR : RG σ) (a : Int) (ha : R32 a) (n : Nat) (hLB : LB σ n) : vx_Met l yX6_strike wsX6_strike ({ frames := 7, cells := 2, slots := 12, locals := 111 }) (va_Pc [.ref (ga g (0)), .int (iN (a))] (World g σ)) (QI g (fun z u => (0 ≤ a ∧ a < σ.1 5 1) ∧ ¬ σ.1 (7 + 2 * a.toNat) 9 = 0 ∧ z = sumF (fun l => if (sw σ (7 + 2 * a.toNat) 9 0).1 (7 + 2 * l) 10 = a then 1 else 0) n ∧ u = mvF (sw σ (7 + 2 * a.toNat) 9 0) n a (σ.1 (7 + 2 * a.toNat) 10) n)) (XT g (fun E u => ((E = "java/lang/IndexOutOfBoundsException" ∧ ¬ (0 ≤ a ∧ a < σ.1 5 1)) ∨ (E = "java/lang/UnsupportedOperationException" ∧ (0 ≤ a ∧ a < σ.1 5 1) ∧ σ.1 (7 + 2 * a.toNat) 9 = 0)) ∧ u = σ)) 2 12 (gA g) := by
  refine V_metX hl9 (by decide) rfl (Nat.le_of_ble_eq_true rfl) ?_
  intro p9 e9 s9 m9 b9 t9 c9 X hno hr
  have hn := hLB.1
  have hn30 : σ.1 5 1 ≤ 30 := by have := hLB.2.1; omega
  refine V_lv (lv' := [(0, .ref (ga g (0))), (1, .int (iN (a)))]) rfl ?_
  refine V_aload_n X 0 rfl dX6_strike_0 rfl ?_
  refine V_iload_n X 1 rfl dX6_strike_1 rfl ?_
  refine V_callV_Rx X (na := 1) (ci := 6) (b0 := 0) (by decide) (rfl) (by decide) rfl (m_X6_lapNumbered g l hl9 σ hR a ha hn30) gX6_strike_X6_lapNumbered rfl rfl rfl (by decide +kernel) ⟨Nat.le_of_ble_eq_true rfl, Nat.le_of_ble_eq_true rfl⟩ rfl rfl (Nat.le_of_ble_eq_true rfl) ⟨Nat.le_of_ble_eq_true rfl, Nat.le_of_ble_eq_true rfl⟩ dX6_strike_2 (fun E u hp => ?_) (fun z1 u2 hp3 => ?_)
  · skip
    exact VX_out X hno (⟨Or.inl ⟨hp.1, hp.2.1⟩, hp.2.2⟩) (by decide) (by decide)
  · skip
    obtain ⟨h1, h2, hb, hu4⟩ := hp3
    have hu4 := hu4.symm
    subst hu4
    subst hb
    refine V_astore_n X [(2, .ref (ga g (7 + 2 * (a).toNat))), (0, .ref (ga g (0))), (1, .int (iN (a)))] dX6_strike_5 rfl (by decide) rfl ?_
    refine V_aload_n X 0 rfl dX6_strike_6 rfl ?_
    refine V_get X (ci := 2) (7 + 2 * (a).toNat) (by omega) (kd_lap (by omega)) (by decide) rfl (fun _ h => List.mem_cons_of_mem _ (List.mem_append_left _ (List.mem_append_left _ (List.mem_append_left _ (List.mem_append_left _ (List.mem_append_right _ h)))))) 9 (by decide) (List.mem_of_getElem? (i := 3) rfl) rfl rfl dX6_strike_7 ?_
    refine V_if_ne X 23 (hR _ _) dX6_strike_10 (by decide) (fun q5 => ?_) (fun q5 => ?_)
    · skip
      refine V_aload_n X 0 rfl dX6_strike_23 rfl ?_
      refine V_iconst X dX6_strike_24 ?_
      refine V_put X (ci := 2) (7 + 2 * (a).toNat) (by omega) (kd_lap (by omega)) (by decide) rfl (fun _ h => List.mem_cons_of_mem _ (List.mem_append_left _ (List.mem_append_left _ (List.mem_append_left _ (List.mem_append_left _ (List.mem_append_right _ h)))))) 9 (by decide) (List.mem_of_getElem? (i := 3) rfl) rfl tyX2 tyX2_ok nmX2 rfl rfl (iN_bool (Or.inl rfl)).1 (iN_bool (Or.inl rfl)).2 rfl (Nat.le_of_ble_eq_true rfl) dX6_strike_25 ?_
      refine V_aload_n X 1 rfl dX6_strike_28 rfl ?_
      refine V_get X (ci := 6) (0) (by decide) (rfl) (by decide) rfl (fun _ h => List.mem_cons_of_mem _ (List.mem_append_left _ (List.mem_append_left _ (List.mem_append_left _ (List.mem_append_right _ h))))) 7 (by decide) (List.mem_of_getElem? (i := 4) rfl) rfl rfl dX6_strike_29 ?_
      refine V_iload_n X 2 rfl dX6_strike_32 rfl ?_
      refine V_aload_n X 0 rfl dX6_strike_33 rfl ?_
      refine V_get X (ci := 2) (7 + 2 * (a).toNat) (by omega) (kd_lap (by omega)) (by decide) rfl (fun _ h => List.mem_cons_of_mem _ (List.mem_append_left _ (List.mem_append_left _ (List.mem_append_left _ (List.mem_append_left _ (List.mem_append_right _ h)))))) 10 (by decide) (List.mem_of_getElem? (i := 5) rfl) rfl rfl dX6_strike_34 ?_
      refine V_top (b := σ.1 (7 + 2 * (a).toNat) (10)) (rd_k (by decide)) ?_
      refine V_callV_I X (na := 2) (ci := 0) (b0 := 5) (by decide) (rfl) (by decide) rfl (m_X0_moveFrom g l hl9 (sw σ (7 + 2 * a.toNat) 9 0) (hR.sw _ _ ⟨by decide, by decide⟩) n (hLB.stand (by omega) (Or.inl rfl)) a (σ.1 (7 + 2 * a.toNat) 10) ha (hR _ _)) gX6_strike_X0_moveFrom rfl rfl rfl (by decide +kernel) ⟨Nat.le_of_ble_eq_true rfl, Nat.le_of_ble_eq_true rfl⟩ rfl rfl (Nat.le_of_ble_eq_true rfl) ⟨Nat.le_of_ble_eq_true rfl, Nat.le_of_ble_eq_true rfl⟩ dX6_strike_37 (fun z6 u7 z6r hp8 => ?_)
      obtain ⟨hz, hu9⟩ := hp8
      have hu9 := hu9.symm
      subst hu9
      exact V_iretX X hr rfl z6r (by exact ⟨⟨h1, h2⟩, by omega, hz, rfl⟩) dX6_strike_40 (by decide) (by decide)
    · skip
      exact V_throw X hno rfl (List.mem_of_getElem? (i := 19) rfl) (by decide) (List.mem_of_getElem? (i := 1) rfl) (List.mem_of_getElem? (i := 2) rfl) (atm_X6_strike_80) gb_X6_80 (List.mem_of_getElem? (i := 3) rfl) (gd_X6_80) dX6_strike_13 dX6_strike_16 dX6_strike_17 dX6_strike_19 dX6_strike_22 (Nat.le_of_ble_eq_true rfl) (Nat.le_of_ble_eq_true rfl) (Nat.le_of_ble_eq_true rfl) (Nat.le_of_ble_eq_true rfl) (by decide) (by decide) (⟨Or.inr ⟨rfl, ⟨h1, h2⟩, by omega⟩, rfl⟩)
theorem atm_X6_giveBack_80 : ∀ w ∈ vx_atS RX6 80 "java/lang/UnsupportedOperationException" ["java/lang/RuntimeException", "java/lang/Exception"], goodWord w = true → w ∈ wsX6_giveBack := fun w h0 hg0 => by
  have h := List.mem_filter.mpr ⟨h0, hg0⟩
  exact List.mem_cons_of_mem _ (List.mem_append_left _ (List.mem_append_right _ h))
set_option maxRecDepth 100000 in
set_option maxHeartbeats 4000000 in
theorem m_X6_giveBack (g : Geo) (l : Launch) (hl9 : l.stackTraces = false) (σ : St) (hR : RG σ) (a : Int) (ha : R32 a) (n : Nat) (hLB : LB σ n) : vx_Met l yX6_giveBack wsX6_giveBack ({ frames := 7, cells := 2, slots := 12, locals := 111 }) (va_Pc [.ref (ga g (0)), .int (iN (a))] (World g σ)) (QI g (fun z u => (0 ≤ a ∧ a < σ.1 5 1) ∧ σ.1 (7 + 2 * a.toNat) 9 = 0 ∧ z = sumF (fun l => if (sw σ (7 + 2 * a.toNat) 9 1).1 (7 + 2 * l) 9 = 0 then 0 else 1) n ∧ u = sw σ (7 + 2 * a.toNat) 9 1)) (XT g (fun E u => ((E = "java/lang/IndexOutOfBoundsException" ∧ ¬ (0 ≤ a ∧ a < σ.1 5 1)) ∨ (E = "java/lang/UnsupportedOperationException" ∧ (0 ≤ a ∧ a < σ.1 5 1) ∧ ¬ σ.1 (7 + 2 * a.toNat) 9 = 0)) ∧ u = σ)) 2 12 (gA g) := by
  refine V_metX hl9 (by decide) rfl (Nat.le_of_ble_eq_true rfl) ?_
  intro p9 e9 s9 m9 b9 t9 c9 X hno hr
  have hn := hLB.1
  have hn30 : σ.1 5 1 ≤ 30 := by have := hLB.2.1; omega
  have hn30' := hLB.2.1
  refine V_lv (lv' := [(0, .ref (ga g (0))), (1, .int (iN (a)))]) rfl ?_
  refine V_aload_n X 0 rfl dX6_giveBack_0 rfl ?_
  refine V_iload_n X 1 rfl dX6_giveBack_1 rfl ?_
  refine V_callV_Rx X (na := 1) (ci := 6) (b0 := 0) (by decide) (rfl) (by decide) rfl (m_X6_lapNumbered g l hl9 σ hR a ha hn30) gX6_giveBack_X6_lapNumbered rfl rfl rfl (by decide +kernel) ⟨Nat.le_of_ble_eq_true rfl, Nat.le_of_ble_eq_true rfl⟩ rfl rfl (Nat.le_of_ble_eq_true rfl) ⟨Nat.le_of_ble_eq_true rfl, Nat.le_of_ble_eq_true rfl⟩ dX6_giveBack_2 (fun E u hp => ?_) (fun z1 u2 hp3 => ?_)
  · skip
    exact VX_out X hno (⟨Or.inl ⟨hp.1, hp.2.1⟩, hp.2.2⟩) (by decide) (by decide)
  · skip
    obtain ⟨h1, h2, hb, hu4⟩ := hp3
    have hu4 := hu4.symm
    subst hu4
    subst hb
    refine V_astore_n X [(2, .ref (ga g (7 + 2 * (a).toNat))), (0, .ref (ga g (0))), (1, .int (iN (a)))] dX6_giveBack_5 rfl (by decide) rfl ?_
    refine V_aload_n X 0 rfl dX6_giveBack_6 rfl ?_
    refine V_get X (ci := 2) (7 + 2 * (a).toNat) (by omega) (kd_lap (by omega)) (by decide) rfl (fun _ h => List.mem_cons_of_mem _ (List.mem_append_left _ (List.mem_append_left _ (List.mem_append_left _ (List.mem_append_left _ (List.mem_append_right _ h)))))) 9 (by decide) (List.mem_of_getElem? (i := 3) rfl) rfl rfl dX6_giveBack_7 ?_
    refine V_if_eq X 24 (hR _ _) dX6_giveBack_10 (by decide) (fun q5 => ?_) (fun q5 => ?_)
    · skip
      refine V_aload_n X 0 rfl dX6_giveBack_24 rfl ?_
      refine V_iconst X dX6_giveBack_25 ?_
      refine V_put X (ci := 2) (7 + 2 * (a).toNat) (by omega) (kd_lap (by omega)) (by decide) rfl (fun _ h => List.mem_cons_of_mem _ (List.mem_append_left _ (List.mem_append_left _ (List.mem_append_left _ (List.mem_append_left _ (List.mem_append_right _ h)))))) 9 (by decide) (List.mem_of_getElem? (i := 3) rfl) rfl tyX2 tyX2_ok nmX2 rfl rfl (iN_bool (Or.inr rfl)).1 (iN_bool (Or.inr rfl)).2 rfl (Nat.le_of_ble_eq_true rfl) dX6_giveBack_26 ?_
      refine V_aload_n X 1 rfl dX6_giveBack_29 rfl ?_
      refine V_get X (ci := 6) (0) (by decide) (rfl) (by decide) rfl (fun _ h => List.mem_cons_of_mem _ (List.mem_append_left _ (List.mem_append_left _ (List.mem_append_left _ (List.mem_append_right _ h))))) 7 (by decide) (List.mem_of_getElem? (i := 4) rfl) rfl rfl dX6_giveBack_30 ?_
      refine V_callV_I X (na := 0) (ci := 0) (b0 := 5) (by decide) (rfl) (by decide) rfl (m_X0_countStanding g l hl9 (sw σ (7 + 2 * a.toNat) 9 1) (hR.sw _ _ ⟨by decide, by decide⟩) n (hLB.stand (v := 1) (j := a.toNat) (by omega) (Or.inr rfl)).1 hn30') gX6_giveBack_X0_countStanding rfl rfl rfl (by decide +kernel) ⟨Nat.le_of_ble_eq_true rfl, Nat.le_of_ble_eq_true rfl⟩ rfl rfl (Nat.le_of_ble_eq_true rfl) ⟨Nat.le_of_ble_eq_true rfl, Nat.le_of_ble_eq_true rfl⟩ dX6_giveBack_33 (fun z6 u7 z6r hp8 => ?_)
      obtain ⟨hz, hu9⟩ := hp8
      have hu9 := hu9.symm
      subst hu9
      exact V_iretX X hr rfl z6r (by exact ⟨⟨h1, h2⟩, by omega, hz, rfl⟩) dX6_giveBack_36 (by decide) (by decide)
    · skip
      exact V_throwW X hno rfl (List.mem_of_getElem? (i := 20) rfl) (by decide) (List.mem_of_getElem? (i := 1) rfl) (List.mem_of_getElem? (i := 2) rfl) (atm_X6_giveBack_80) gb_X6_80 (List.mem_of_getElem? (i := 3) rfl) (gd_X6_80) dX6_giveBack_13 dX6_giveBack_16 dX6_giveBack_17 dX6_giveBack_20 dX6_giveBack_23 (Nat.le_of_ble_eq_true rfl) (Nat.le_of_ble_eq_true rfl) (Nat.le_of_ble_eq_true rfl) (Nat.le_of_ble_eq_true rfl) (by decide) (by decide) (⟨Or.inr ⟨rfl, ⟨h1, h2⟩, by omega⟩, rfl⟩)
theorem atm_X6_penalty_71 : ∀ w ∈ vx_atS RX6 71 "java/lang/IllegalArgumentException" ["java/lang/RuntimeException", "java/lang/Exception"], goodWord w = true → w ∈ wsX6_penalty := fun w h0 hg0 => by
  have h := List.mem_filter.mpr ⟨h0, hg0⟩
  exact List.mem_cons_of_mem _ (List.mem_append_left _ (List.mem_append_right _ h))
set_option maxRecDepth 100000 in
set_option maxHeartbeats 4000000 in
theorem m_X6_penalty (g : Geo) (l : Launch) (hl9 : l.stackTraces = false) (σ : St) (hR : RG σ) (a h : Int) (ha : R32 a) (hh : R32 h) (hn30 : σ.1 5 1 ≤ 30) : vx_Met l yX6_penalty wsX6_penalty ({ frames := 7, cells := 2, slots := 12, locals := 111 }) (va_Pc [.ref (ga g (0)), .int (iN (a)), .int (iN (h))] (World g σ)) (QI g (fun z u => (0 ≤ a ∧ a < σ.1 5 1) ∧ (0 ≤ h ∧ h ≤ 9999) ∧ z = σ.1 (7 + 2 * a.toNat) 8 ∧ u = sw σ (7 + 2 * a.toNat) 8 h)) (XT g (fun E u => ((E = "java/lang/IndexOutOfBoundsException" ∧ ¬ (0 ≤ a ∧ a < σ.1 5 1)) ∨ (E = "java/lang/IllegalArgumentException" ∧ (0 ≤ a ∧ a < σ.1 5 1) ∧ ¬ (0 ≤ h ∧ h ≤ 9999))) ∧ u = σ)) 2 12 (gA g) := by
  refine V_metX hl9 (by decide) rfl (Nat.le_of_ble_eq_true rfl) ?_
  intro p9 e9 s9 m9 b9 t9 c9 X hno hr
  refine V_lv (lv' := [(0, .ref (ga g (0))), (1, .int (iN (a))), (2, .int (iN (h)))]) rfl ?_
  refine V_aload_n X 0 rfl dX6_penalty_0 rfl ?_
  refine V_iload_n X 1 rfl dX6_penalty_1 rfl ?_
  refine V_callV_Rx X (na := 1) (ci := 6) (b0 := 0) (by decide) (rfl) (by decide) rfl (m_X6_lapNumbered g l hl9 σ hR a ha hn30) gX6_penalty_X6_lapNumbered rfl rfl rfl (by decide +kernel) ⟨Nat.le_of_ble_eq_true rfl, Nat.le_of_ble_eq_true rfl⟩ rfl rfl (Nat.le_of_ble_eq_true rfl) ⟨Nat.le_of_ble_eq_true rfl, Nat.le_of_ble_eq_true rfl⟩ dX6_penalty_2 (fun E u hp => ?_) (fun z1 u2 hp3 => ?_)
  · skip
    exact VX_out X hno (⟨Or.inl ⟨hp.1, hp.2.1⟩, hp.2.2⟩) (by decide) (by decide)
  · skip
    obtain ⟨h1, h2, hb, hu4⟩ := hp3
    have hu4 := hu4.symm
    subst hu4
    subst hb
    refine V_astore_n X [(3, .ref (ga g (7 + 2 * (a).toNat))), (0, .ref (ga g (0))), (1, .int (iN (a))), (2, .int (iN (h)))] dX6_penalty_5 rfl (by decide) rfl ?_
    refine V_iload_n X 3 rfl dX6_penalty_6 rfl ?_
    refine V_iconst X dX6_penalty_7 ?_
    refine V_sipush X (by decide) dX6_penalty_8 ?_
    refine V_callS_I X (na := 3) (m_X6_isWithin g l hl9 σ h 0 9999 hh ⟨by decide, by decide⟩ ⟨by decide, by decide⟩) gX6_penalty_X6_isWithin rfl rfl rfl (by decide +kernel) ⟨Nat.le_of_ble_eq_true rfl, Nat.le_of_ble_eq_true rfl⟩ rfl rfl (Nat.le_of_ble_eq_true rfl) ⟨Nat.le_of_ble_eq_true rfl, Nat.le_of_ble_eq_true rfl⟩ dX6_penalty_11 (fun z5 u6 z5r hp7 => ?_)
    obtain ⟨hz9, hu8⟩ := hp7
    have hu8 := hu8.symm
    subst hu8
    rcases Classical.em (0 ≤ h ∧ h ≤ 9999) with hw11 | hw11
    · skip
      rw [if_pos hw11] at hz9
      subst hz9
      refine V_if_ne X 28 ⟨by decide, by decide⟩ dX6_penalty_14 (by decide) (fun _ => ?_) (fun h => absurd h (by first | decide | omega))
      refine V_aload_n X 0 rfl dX6_penalty_28 rfl ?_
      refine V_get X (ci := 2) (7 + 2 * (a).toNat) (by omega) (kd_lap (by omega)) (by decide) rfl (fun _ h => List.mem_cons_of_mem _ (List.mem_append_left _ (List.mem_append_left _ (List.mem_append_left _ (List.mem_append_left _ (List.mem_append_right _ h)))))) 8 (by decide) (List.mem_of_getElem? (i := 3) rfl) rfl rfl dX6_penalty_29 ?_
      refine V_istore X [(4, .int (iN (σ.1 (7 + 2 * (a).toNat) (8)))), (3, .ref (ga g (7 + 2 * (a).toNat))), (0, .ref (ga g (0))), (1, .int (iN (a))), (2, .int (iN (h)))] dX6_penalty_32 (by decide) rfl ?_
      refine V_aload_n X 1 rfl dX6_penalty_34 rfl ?_
      refine V_iload_n X 4 rfl dX6_penalty_35 rfl ?_
      refine V_put X (ci := 2) (7 + 2 * (a).toNat) (by omega) (kd_lap (by omega)) (by decide) rfl (fun _ h => List.mem_cons_of_mem _ (List.mem_append_left _ (List.mem_append_left _ (List.mem_append_left _ (List.mem_append_left _ (List.mem_append_right _ h)))))) 8 (by decide) (List.mem_of_getElem? (i := 3) rfl) rfl tyX2 tyX2_ok nmX2 rfl rfl rfl rfl rfl (Nat.le_of_ble_eq_true rfl) dX6_penalty_36 ?_
      refine V_iload X 0 rfl dX6_penalty_39 ?_
      exact V_iretX X hr rfl (hR _ _) (by exact ⟨⟨h1, h2⟩, hw11, rfl, rfl⟩) dX6_penalty_41 (by decide) (by decide)
    · skip
      rw [if_neg hw11] at hz9
      subst hz9
      refine V_if_ne X 28 ⟨by decide, by decide⟩ dX6_penalty_14 (by decide) (fun h => absurd h (by first | decide | omega)) (fun _ => ?_)
      exact V_throwW X hno rfl (List.mem_of_getElem? (i := 21) rfl) (by decide) (List.mem_of_getElem? (i := 1) rfl) (List.mem_of_getElem? (i := 2) rfl) (atm_X6_penalty_71) gb_X6_71 (List.mem_of_getElem? (i := 1) rfl) (gd_X6_71) dX6_penalty_17 dX6_penalty_20 dX6_penalty_21 dX6_penalty_24 dX6_penalty_27 (Nat.le_of_ble_eq_true rfl) (Nat.le_of_ble_eq_true rfl) (Nat.le_of_ble_eq_true rfl) (Nat.le_of_ble_eq_true rfl) (by decide) (by decide) (⟨Or.inr ⟨rfl, ⟨h1, h2⟩, hw11⟩, rfl⟩)
theorem atm_X6_shut_56 : ∀ w ∈ vx_atS RX6 56 "java/lang/IllegalStateException" ["java/lang/RuntimeException", "java/lang/Exception"], goodWord w = true → w ∈ wsX6_shut := fun w h0 hg0 => by
  have h := List.mem_filter.mpr ⟨h0, hg0⟩
  exact List.mem_cons_of_mem _ (List.mem_append_right _ h)
set_option maxRecDepth 100000 in
set_option maxHeartbeats 4000000 in
theorem m_X6_shut (g : Geo) (l : Launch) (hl9 : l.stackTraces = false) (σ : St) (hR : RG σ) : vx_Met l yX6_shut wsX6_shut ({ frames := 6, cells := 1, slots := 6, locals := 90 }) (va_Pc [.ref (ga g (0))] (World g σ)) (QI g (fun z u => ¬ σ.1 67 2 = -1 ∧ z = σ.1 67 2 ∧ u = sw σ 67 2 (-1))) (XT g (fun E u => E = "java/lang/IllegalStateException" ∧ σ.1 67 2 = -1 ∧ u = σ)) 1 6 (gA g) := by
  refine V_metX hl9 (by decide) rfl (Nat.le_of_ble_eq_true rfl) ?_
  intro p9 e9 s9 m9 b9 t9 c9 X hno hr
  refine V_lv (lv' := [(0, .ref (ga g (0)))]) rfl ?_
  refine V_aload_n X 0 rfl dX6_shut_0 rfl ?_
  refine V_get X (ci := 6) (0) (by decide) (rfl) (by decide) rfl (fun _ h => List.mem_cons_of_mem _ (List.mem_append_left _ (List.mem_append_left _ (List.mem_append_right _ h)))) 8 (by decide) (List.mem_of_getElem? (i := 3) rfl) rfl rfl dX6_shut_1 ?_
  refine V_get X (ci := 4) (67) (by decide) (rfl) (by decide) rfl (fun _ h => List.mem_cons_of_mem _ (List.mem_append_left _ (List.mem_append_right _ h))) 2 (by decide) (List.mem_of_getElem? (i := 4) rfl) rfl rfl dX6_shut_4 ?_
  refine V_istore_n X [(1, .int (iN (σ.1 67 2))), (0, .ref (ga g (0)))] dX6_shut_7 rfl (by decide) rfl ?_
  refine V_iload_n X 0 rfl dX6_shut_8 rfl ?_
  refine V_iconst X dX6_shut_9 ?_
  refine V_icmp_ne X 24 (hR _ _) ⟨by decide, by decide⟩ dX6_shut_10 (by decide) (fun q1 => ?_) (fun q1 => ?_)
  · skip
    refine V_aload_n X 1 rfl dX6_shut_24 rfl ?_
    refine V_get X (ci := 6) (0) (by decide) (rfl) (by decide) rfl (fun _ h => List.mem_cons_of_mem _ (List.mem_append_left _ (List.mem_append_left _ (List.mem_append_right _ h)))) 8 (by decide) (List.mem_of_getElem? (i := 3) rfl) rfl rfl dX6_shut_25 ?_
    refine V_iconst X dX6_shut_28 ?_
    refine V_put X (ci := 4) (67) (by decide) (rfl) (by decide) rfl (fun _ h => List.mem_cons_of_mem _ (List.mem_append_left _ (List.mem_append_right _ h))) 2 (by decide) (List.mem_of_getElem? (i := 4) rfl) rfl tyX4 tyX4_ok nmX4 rfl rfl rfl rfl rfl (Nat.le_of_ble_eq_true rfl) dX6_shut_29 ?_
    refine V_iload_n X 0 rfl dX6_shut_32 rfl ?_
    exact V_iretX X hr rfl (hR _ _) (by exact ⟨by omega, rfl, rfl⟩) dX6_shut_33 (by decide) (by decide)
  · skip
    exact V_throwW X hno rfl (List.mem_of_getElem? (i := 23) rfl) (by decide) (List.mem_of_getElem? (i := 1) rfl) (List.mem_of_getElem? (i := 2) rfl) (atm_X6_shut_56) gb_X6_56 (List.mem_of_getElem? (i := 0) rfl) (gd_X6_56) dX6_shut_13 dX6_shut_16 dX6_shut_17 dX6_shut_20 dX6_shut_23 (Nat.le_of_ble_eq_true rfl) (Nat.le_of_ble_eq_true rfl) (Nat.le_of_ble_eq_true rfl) (Nat.le_of_ble_eq_true rfl) (by decide) (by decide) (⟨rfl, by omega, rfl⟩)
theorem atm_X6_round_56 : ∀ w ∈ vx_atS RX6 56 "java/lang/IllegalStateException" ["java/lang/RuntimeException", "java/lang/Exception"], goodWord w = true → w ∈ wsX6_round := fun w h0 hg0 => by
  have h := List.mem_filter.mpr ⟨h0, hg0⟩
  exact List.mem_cons_of_mem _ (List.mem_append_left _ (List.mem_append_right _ h))
set_option maxRecDepth 100000 in
set_option maxHeartbeats 4000000 in
theorem m_X6_round (g : Geo) (l : Launch) (hl9 : l.stackTraces = false) (σ : St) (hR : RG σ) (a : Int) (ha : R32 a) (hT4 : σ.1 0 1 ≤ 4) (r : Nat) (hr1 : σ.1 67 1 = (r : Int)) : vx_Met l yX6_round wsX6_round ({ frames := 7, cells := 2, slots := 12, locals := 111 }) (va_Pc [.ref (ga g (0)), .int (iN (a))] (World g σ)) (QI g (fun z u => (0 ≤ a ∧ a < σ.1 0 1) ∧ r < 10 ∧ z = σ.1 67 1 ∧ u = opnF σ r a)) (XT g (fun E u => ((E = "java/lang/IndexOutOfBoundsException" ∧ ¬ (0 ≤ a ∧ a < σ.1 0 1)) ∨ (E = "java/lang/IllegalStateException" ∧ (0 ≤ a ∧ a < σ.1 0 1) ∧ ¬ r < 10)) ∧ u = σ)) 2 12 (gA g) := by
  refine V_metX hl9 (by decide) rfl (Nat.le_of_ble_eq_true rfl) ?_
  intro p9 e9 s9 m9 b9 t9 c9 X hno hr
  refine V_lv (lv' := [(0, .ref (ga g (0))), (1, .int (iN (a)))]) rfl ?_
  refine V_aload_n X 0 rfl dX6_round_0 rfl ?_
  refine V_iload_n X 1 rfl dX6_round_1 rfl ?_
  refine V_callV_Rx X (na := 1) (ci := 6) (b0 := 0) (by decide) (rfl) (by decide) rfl (m_X6_trackNumbered g l hl9 σ hR a ha hT4) gX6_round_X6_trackNumbered rfl rfl rfl (by decide +kernel) ⟨Nat.le_of_ble_eq_true rfl, Nat.le_of_ble_eq_true rfl⟩ rfl rfl (Nat.le_of_ble_eq_true rfl) ⟨Nat.le_of_ble_eq_true rfl, Nat.le_of_ble_eq_true rfl⟩ dX6_round_2 (fun E u hp => ?_) (fun z1 u2 hp3 => ?_)
  · skip
    exact VX_out X hno (⟨Or.inl ⟨hp.1, hp.2.1⟩, hp.2.2⟩) (by decide) (by decide)
  · skip
    obtain ⟨h1, h2, hb, hu4⟩ := hp3
    have hu4 := hu4.symm
    subst hu4
    subst hb
    refine V_pop X rfl dX6_round_5 ?_
    refine V_aload_n X 0 rfl dX6_round_6 rfl ?_
    refine V_get X (ci := 6) (0) (by decide) (rfl) (by decide) rfl (fun _ h => List.mem_cons_of_mem _ (List.mem_append_left _ (List.mem_append_left _ (List.mem_append_left _ (List.mem_append_right _ h))))) 8 (by decide) (List.mem_of_getElem? (i := 3) rfl) rfl rfl dX6_round_7 ?_
    refine V_get X (ci := 4) (67) (by decide) (rfl) (by decide) rfl (fun _ h => List.mem_cons_of_mem _ (List.mem_append_left _ (List.mem_append_left _ (List.mem_append_right _ h)))) 1 (by decide) (List.mem_of_getElem? (i := 4) rfl) rfl rfl dX6_round_10 ?_
    refine V_bipush X (by decide) dX6_round_13 ?_
    refine V_icmp_lt X 29 (hR _ _) ⟨by decide, by decide⟩ dX6_round_15 (by decide) (fun q5 => ?_) (fun q5 => ?_)
    · skip
      refine V_aload_n X 0 rfl dX6_round_29 rfl ?_
      refine V_get X (ci := 6) (0) (by decide) (rfl) (by decide) rfl (fun _ h => List.mem_cons_of_mem _ (List.mem_append_left _ (List.mem_append_left _ (List.mem_append_left _ (List.mem_append_right _ h))))) 8 (by decide) (List.mem_of_getElem? (i := 3) rfl) rfl rfl dX6_round_30 ?_
      refine V_iload_n X 1 rfl dX6_round_33 rfl ?_
      refine V_callV_V X (na := 1) (ci := 4) (b0 := 67) (by decide) (rfl) (by decide) rfl (m_X4_openOn g l hl9 σ hR a r hr1 (by omega)) gX6_round_X4_openOn rfl rfl rfl (by decide +kernel) ⟨Nat.le_of_ble_eq_true rfl, Nat.le_of_ble_eq_true rfl⟩ rfl rfl (Nat.le_of_ble_eq_true rfl) ⟨Nat.le_of_ble_eq_true rfl, Nat.le_of_ble_eq_true rfl⟩ dX6_round_34 (fun u7 hp8 => ?_)
      subst hp8
      refine V_aload_n X 0 rfl dX6_round_37 rfl ?_
      refine V_get X (ci := 6) (0) (by decide) (rfl) (by decide) rfl (fun _ h => List.mem_cons_of_mem _ (List.mem_append_left _ (List.mem_append_left _ (List.mem_append_left _ (List.mem_append_right _ h))))) 8 (by decide) (List.mem_of_getElem? (i := 3) rfl) rfl rfl dX6_round_38 ?_
      refine V_get X (ci := 4) (67) (by decide) (rfl) (by decide) rfl (fun _ h => List.mem_cons_of_mem _ (List.mem_append_left _ (List.mem_append_left _ (List.mem_append_right _ h)))) 2 (by decide) (List.mem_of_getElem? (i := 5) rfl) rfl rfl dX6_round_41 ?_
      refine V_top (b := σ.1 67 1) (Eq.trans (rd_k (by decide)) rd_s) ?_
      exact V_iretX X hr rfl (hR _ _) (by exact ⟨⟨h1, h2⟩, by omega, rfl, rfl⟩) dX6_round_44 (by decide) (by decide)
    · skip
      exact V_throwW X hno rfl (List.mem_of_getElem? (i := 22) rfl) (by decide) (List.mem_of_getElem? (i := 1) rfl) (List.mem_of_getElem? (i := 2) rfl) (atm_X6_round_56) gb_X6_56 (List.mem_of_getElem? (i := 0) rfl) (gd_X6_56) dX6_round_18 dX6_round_21 dX6_round_22 dX6_round_25 dX6_round_28 (Nat.le_of_ble_eq_true rfl) (Nat.le_of_ble_eq_true rfl) (Nat.le_of_ble_eq_true rfl) (Nat.le_of_ble_eq_true rfl) (by decide) (by decide) (⟨Or.inr ⟨rfl, ⟨h1, h2⟩, by omega⟩, rfl⟩)
theorem atm_X6_drop_71 : ∀ w ∈ vx_atS RX6 71 "java/lang/IllegalArgumentException" ["java/lang/RuntimeException", "java/lang/Exception"], goodWord w = true → w ∈ wsX6_drop := fun w h0 hg0 => by
  have h := List.mem_filter.mpr ⟨h0, hg0⟩
  exact List.mem_cons_of_mem _ (List.mem_append_right _ h)
set_option maxRecDepth 100000 in
set_option maxHeartbeats 4000000 in
theorem m_X6_drop (g : Geo) (l : Launch) (hl9 : l.stackTraces = false) (σ : St) (hR : RG σ) (a : Int) (ha : R32 a) : vx_Met l yX6_drop wsX6_drop ({ frames := 6, cells := 1, slots := 6, locals := 90 }) (va_Pc [.ref (ga g (0)), .int (iN (a))] (World g σ)) (QI g (fun z u => (0 ≤ a ∧ a ≤ 3) ∧ z = σ.1 67 3 ∧ u = sw σ 67 3 a)) (XT g (fun E u => E = "java/lang/IllegalArgumentException" ∧ ¬ (0 ≤ a ∧ a ≤ 3) ∧ u = σ)) 1 6 (gA g) := by
  refine V_metX hl9 (by decide) rfl (Nat.le_of_ble_eq_true rfl) ?_
  intro p9 e9 s9 m9 b9 t9 c9 X hno hr
  refine V_lv (lv' := [(0, .ref (ga g (0))), (1, .int (iN (a)))]) rfl ?_
  refine V_iload_n X 1 rfl dX6_drop_0 rfl ?_
  refine V_iconst X dX6_drop_1 ?_
  refine V_iconst X dX6_drop_2 ?_
  refine V_callS_I X (na := 3) (m_X6_isWithin g l hl9 σ a 0 3 ha ⟨by decide, by decide⟩ ⟨by decide, by decide⟩) gX6_drop_X6_isWithin rfl rfl rfl (by decide +kernel) ⟨Nat.le_of_ble_eq_true rfl, Nat.le_of_ble_eq_true rfl⟩ rfl rfl (Nat.le_of_ble_eq_true rfl) ⟨Nat.le_of_ble_eq_true rfl, Nat.le_of_ble_eq_true rfl⟩ dX6_drop_3 (fun z1 u2 z1r hp3 => ?_)
  obtain ⟨hz9, hu4⟩ := hp3
  have hu4 := hu4.symm
  subst hu4
  rcases Classical.em (0 ≤ a ∧ a ≤ 3) with hw3 | hw3
  · skip
    rw [if_pos hw3] at hz9
    subst hz9
    refine V_if_ne X 20 ⟨by decide, by decide⟩ dX6_drop_6 (by decide) (fun _ => ?_) (fun h => absurd h (by first | decide | omega))
    refine V_aload_n X 0 rfl dX6_drop_20 rfl ?_
    refine V_get X (ci := 6) (0) (by decide) (rfl) (by decide) rfl (fun _ h => List.mem_cons_of_mem _ (List.mem_append_left _ (List.mem_append_left _ (List.mem_append_right _ h)))) 8 (by decide) (List.mem_of_getElem? (i := 3) rfl) rfl rfl dX6_drop_21 ?_
    refine V_get X (ci := 4) (67) (by decide) (rfl) (by decide) rfl (fun _ h => List.mem_cons_of_mem _ (List.mem_append_left _ (List.mem_append_right _ h))) 3 (by decide) (List.mem_of_getElem? (i := 4) rfl) rfl rfl dX6_drop_24 ?_
    refine V_istore_n X [(2, .int (iN (σ.1 67 3))), (0, .ref (ga g (0))), (1, .int (iN (a)))] dX6_drop_27 rfl (by decide) rfl ?_
    refine V_aload_n X 1 rfl dX6_drop_28 rfl ?_
    refine V_get X (ci := 6) (0) (by decide) (rfl) (by decide) rfl (fun _ h => List.mem_cons_of_mem _ (List.mem_append_left _ (List.mem_append_left _ (List.mem_append_right _ h)))) 8 (by decide) (List.mem_of_getElem? (i := 3) rfl) rfl rfl dX6_drop_29 ?_
    refine V_iload_n X 2 rfl dX6_drop_32 rfl ?_
    refine V_put X (ci := 4) (67) (by decide) (rfl) (by decide) rfl (fun _ h => List.mem_cons_of_mem _ (List.mem_append_left _ (List.mem_append_right _ h))) 3 (by decide) (List.mem_of_getElem? (i := 4) rfl) rfl tyX4 tyX4_ok nmX4 rfl rfl rfl rfl rfl (Nat.le_of_ble_eq_true rfl) dX6_drop_33 ?_
    refine V_iload_n X 0 rfl dX6_drop_36 rfl ?_
    exact V_iretX X hr rfl (hR _ _) (by exact ⟨hw3, rfl, rfl⟩) dX6_drop_37 (by decide) (by decide)
  · skip
    rw [if_neg hw3] at hz9
    subst hz9
    refine V_if_ne X 20 ⟨by decide, by decide⟩ dX6_drop_6 (by decide) (fun h => absurd h (by first | decide | omega)) (fun _ => ?_)
    exact V_throwW X hno rfl (List.mem_of_getElem? (i := 26) rfl) (by decide) (List.mem_of_getElem? (i := 1) rfl) (List.mem_of_getElem? (i := 2) rfl) (atm_X6_drop_71) gb_X6_71 (List.mem_of_getElem? (i := 1) rfl) (gd_X6_71) dX6_drop_9 dX6_drop_12 dX6_drop_13 dX6_drop_16 dX6_drop_19 (Nat.le_of_ble_eq_true rfl) (Nat.le_of_ble_eq_true rfl) (Nat.le_of_ble_eq_true rfl) (Nat.le_of_ble_eq_true rfl) (by decide) (by decide) (⟨rfl, hw3, rfl⟩)
theorem atm_X6_stretch_56 : ∀ w ∈ vx_atS RX6 56 "java/lang/IllegalStateException" ["java/lang/RuntimeException", "java/lang/Exception"], goodWord w = true → w ∈ wsX6_stretch := fun w h0 hg0 => by
  have h := List.mem_filter.mpr ⟨h0, hg0⟩
  exact List.mem_cons_of_mem _ (List.mem_append_left _ (List.mem_append_right _ h))
theorem atm_X6_stretch_71 : ∀ w ∈ vx_atS RX6 71 "java/lang/IllegalArgumentException" ["java/lang/RuntimeException", "java/lang/Exception"], goodWord w = true → w ∈ wsX6_stretch := fun w h0 hg0 => by
  have h := List.mem_filter.mpr ⟨h0, hg0⟩
  exact List.mem_cons_of_mem _ (List.mem_append_left _ (List.mem_append_left _ (List.mem_append_left _ (List.mem_append_right _ h))))
theorem atm_X6_stretch_80 : ∀ w ∈ vx_atS RX6 80 "java/lang/UnsupportedOperationException" ["java/lang/RuntimeException", "java/lang/Exception"], goodWord w = true → w ∈ wsX6_stretch := fun w h0 hg0 => by
  have h := List.mem_filter.mpr ⟨h0, hg0⟩
  exact List.mem_cons_of_mem _ (List.mem_append_left _ (List.mem_append_left _ (List.mem_append_right _ h)))
set_option maxRecDepth 100000 in
set_option maxHeartbeats 4000000 in
theorem m_X6_stretch (g : Geo) (l : Launch) (hl9 : l.stackTraces = false) (σ : St) (hR : RG σ) (a len lim : Int) (ha : R32 a) (hl1 : R32 len) (hl2 : R32 lim) (hT4 : σ.1 0 1 ≤ 4) (hTk : ∀ t, t < 4 → 0 ≤ σ.1 (73 + 3 * t) 2 ∧ σ.1 (73 + 3 * t) 2 ≤ 12 ∧ 0 ≤ σ.1 (73 + 3 * t) 3 ∧ σ.1 (73 + 3 * t) 3 ≤ 1000) : vx_Met l yX6_stretch wsX6_stretch ({ frames := 7, cells := 2, slots := 12, locals := 111 }) (va_Pc [.ref (ga g (0)), .int (iN (a)), .int (iN (len)), .int (iN (lim))] (World g σ)) (QI g (fun z u => (0 ≤ a ∧ a < σ.1 0 1) ∧ ((1 ≤ len ∧ len ≤ 30) ∧ 1 ≤ lim ∧ lim ≤ 9) ∧ σ.1 (73 + 3 * a.toNat) 4 = 0 ∧ σ.1 (73 + 3 * a.toNat) 2 < 12 ∧ z = σ.1 (73 + 3 * a.toNat) 3 + len ∧ u = appF σ a.toNat (σ.1 (73 + 3 * a.toNat) 2).toNat len lim)) (XT g (fun E u => ((E = "java/lang/IndexOutOfBoundsException" ∧ ¬ (0 ≤ a ∧ a < σ.1 0 1)) ∨ (E = "java/lang/IllegalArgumentException" ∧ (0 ≤ a ∧ a < σ.1 0 1) ∧ ¬ ((1 ≤ len ∧ len ≤ 30) ∧ 1 ≤ lim ∧ lim ≤ 9)) ∨ (E = "java/lang/UnsupportedOperationException" ∧ (0 ≤ a ∧ a < σ.1 0 1) ∧ ((1 ≤ len ∧ len ≤ 30) ∧ 1 ≤ lim ∧ lim ≤ 9) ∧ ¬ σ.1 (73 + 3 * a.toNat) 4 = 0) ∨ (E = "java/lang/IllegalStateException" ∧ (0 ≤ a ∧ a < σ.1 0 1) ∧ ((1 ≤ len ∧ len ≤ 30) ∧ 1 ≤ lim ∧ lim ≤ 9) ∧ σ.1 (73 + 3 * a.toNat) 4 = 0 ∧ ¬ σ.1 (73 + 3 * a.toNat) 2 < 12)) ∧ u = σ)) 2 12 (gA g) := by
  refine V_metX hl9 (by decide) rfl (Nat.le_of_ble_eq_true rfl) ?_
  intro p9 e9 s9 m9 b9 t9 c9 X hno hr
  refine V_lv (lv' := [(0, .ref (ga g (0))), (1, .int (iN (a))), (2, .int (iN (len))), (3, .int (iN (lim)))]) rfl ?_
  refine V_aload_n X 0 rfl dX6_stretch_0 rfl ?_
  refine V_iload_n X 1 rfl dX6_stretch_1 rfl ?_
  refine V_callV_Rx X (na := 1) (ci := 6) (b0 := 0) (by decide) (rfl) (by decide) rfl (m_X6_trackNumbered g l hl9 σ hR a ha hT4) gX6_stretch_X6_trackNumbered rfl rfl rfl (by decide +kernel) ⟨Nat.le_of_ble_eq_true rfl, Nat.le_of_ble_eq_true rfl⟩ rfl rfl (Nat.le_of_ble_eq_true rfl) ⟨Nat.le_of_ble_eq_true rfl, Nat.le_of_ble_eq_true rfl⟩ dX6_stretch_2 (fun E u hp => ?_) (fun z1 u2 hp3 => ?_)
  · skip
    exact VX_out X hno (⟨Or.inl ⟨hp.1, hp.2.1⟩, hp.2.2⟩) (by decide) (by decide)
  · skip
    obtain ⟨h1, h2, hb, hu4⟩ := hp3
    have hu4 := hu4.symm
    subst hu4
    subst hb
    refine V_astore X [(4, .ref (ga g (73 + 3 * a.toNat))), (0, .ref (ga g (0))), (1, .int (iN (a))), (2, .int (iN (len))), (3, .int (iN (lim)))] dX6_stretch_5 (by decide) rfl ?_
    refine V_iload_n X 3 rfl dX6_stretch_7 rfl ?_
    refine V_iconst X dX6_stretch_8 ?_
    refine V_bipush X (by decide) dX6_stretch_9 ?_
    refine V_callS_I X (na := 3) (m_X6_isWithin g l hl9 σ len 1 30 hl1 ⟨by decide, by decide⟩ ⟨by decide, by decide⟩) gX6_stretch_X6_isWithin rfl rfl rfl (by decide +kernel) ⟨Nat.le_of_ble_eq_true rfl, Nat.le_of_ble_eq_true rfl⟩ rfl rfl (Nat.le_of_ble_eq_true rfl) ⟨Nat.le_of_ble_eq_true rfl, Nat.le_of_ble_eq_true rfl⟩ dX6_stretch_11 (fun z5 u6 z5r hp7 => ?_)
    obtain ⟨hz9, hu8⟩ := hp7
    have hu8 := hu8.symm
    subst hu8
    rcases Classical.em (1 ≤ len ∧ len ≤ 30) with hw11 | hw11
    · skip
      rw [if_pos hw11] at hz9
      subst hz9
      refine V_if_eq X 27 ⟨by decide, by decide⟩ dX6_stretch_14 (by decide) (fun h => absurd h (by first | decide | omega)) (fun _ => ?_)
      refine V_iload_n X 4 rfl dX6_stretch_17 rfl ?_
      refine V_iconst X dX6_stretch_18 ?_
      refine V_bipush X (by decide) dX6_stretch_19 ?_
      refine V_callS_I X (na := 3) (m_X6_isWithin g l hl9 σ lim 1 9 hl2 ⟨by decide, by decide⟩ ⟨by decide, by decide⟩) gX6_stretch_X6_isWithin rfl rfl rfl (by decide +kernel) ⟨Nat.le_of_ble_eq_true rfl, Nat.le_of_ble_eq_true rfl⟩ rfl rfl (Nat.le_of_ble_eq_true rfl) ⟨Nat.le_of_ble_eq_true rfl, Nat.le_of_ble_eq_true rfl⟩ dX6_stretch_21 (fun z9 u10 z9r hp11 => ?_)
      obtain ⟨hz9, hu12⟩ := hp11
      have hu12 := hu12.symm
      subst hu12
      rcases Classical.em (1 ≤ lim ∧ lim ≤ 9) with hw21 | hw21
      · skip
        rw [if_pos hw21] at hz9
        subst hz9
        refine V_if_ne X 37 ⟨by decide, by decide⟩ dX6_stretch_24 (by decide) (fun _ => ?_) (fun h => absurd h (by first | decide | omega))
        refine V_aload X 0 rfl dX6_stretch_37 ?_
        refine V_get X (ci := 5) (73 + 3 * a.toNat) (by omega) (kd_tr (by omega)) (by decide) rfl (fun _ h => List.mem_cons_of_mem _ (List.mem_append_left _ (List.mem_append_left _ (List.mem_append_left _ (List.mem_append_left _ (List.mem_append_left _ (List.mem_append_right _ h))))))) 4 (by decide) (List.mem_of_getElem? (i := 7) rfl) rfl rfl dX6_stretch_39 ?_
        refine V_if_eq X 55 (hR _ _) dX6_stretch_42 (by decide) (fun q13 => ?_) (fun q13 => ?_)
        · skip
          refine V_aload X 0 rfl dX6_stretch_55 ?_
          refine V_get X (ci := 5) (73 + 3 * a.toNat) (by omega) (kd_tr (by omega)) (by decide) rfl (fun _ h => List.mem_cons_of_mem _ (List.mem_append_left _ (List.mem_append_left _ (List.mem_append_left _ (List.mem_append_left _ (List.mem_append_left _ (List.mem_append_right _ h))))))) 2 (by decide) (List.mem_of_getElem? (i := 8) rfl) rfl rfl dX6_stretch_57 ?_
          refine V_bipush X (by decide) dX6_stretch_60 ?_
          refine V_icmp_lt X 75 (hR _ _) ⟨by decide, by decide⟩ dX6_stretch_62 (by decide) (fun q14 => ?_) (fun q14 => ?_)
          · skip
            refine V_aload X 0 rfl dX6_stretch_75 ?_
            refine V_iload_n X 3 rfl dX6_stretch_77 rfl ?_
            refine V_iload_n X 4 rfl dX6_stretch_78 rfl ?_
            have hk := hTk a.toNat (by omega)
            refine V_callV_V X (na := 2) (ci := 5) (b0 := 73 + 3 * a.toNat) (by omega) (kd_tr (by omega)) (by decide) rfl (m_X5_append g l hl9 σ hR a.toNat (by omega) (σ.1 (73 + 3 * a.toNat) 2).toNat (by omega) (by omega) len lim) gX6_stretch_X5_append rfl rfl rfl (by decide +kernel) ⟨Nat.le_of_ble_eq_true rfl, Nat.le_of_ble_eq_true rfl⟩ rfl rfl (Nat.le_of_ble_eq_true rfl) ⟨Nat.le_of_ble_eq_true rfl, Nat.le_of_ble_eq_true rfl⟩ dX6_stretch_79 (fun u16 hp17 => ?_)
            subst hp17
            refine V_aload X 0 rfl dX6_stretch_82 ?_
            refine V_get X (ci := 5) (73 + 3 * a.toNat) (by omega) (kd_tr (by omega)) (by decide) rfl (fun _ h => List.mem_cons_of_mem _ (List.mem_append_left _ (List.mem_append_left _ (List.mem_append_left _ (List.mem_append_left _ (List.mem_append_left _ (List.mem_append_right _ h))))))) 3 (by decide) (List.mem_of_getElem? (i := 9) rfl) rfl rfl dX6_stretch_84 ?_
            refine V_top (b := σ.1 (73 + 3 * a.toNat) 3 + len) (Eq.trans (rd_k (by decide)) (Eq.trans (rd_n (by omega)) (Eq.trans (rd_n (by omega)) rd_s))) ?_
            exact V_iretX X hr rfl ⟨by omega, by omega⟩ (by exact ⟨⟨h1, h2⟩, ⟨hw11, hw21⟩, by omega, by omega, rfl, rfl⟩) dX6_stretch_87 (by decide) (by decide)
          · skip
            exact V_throw X hno rfl (List.mem_of_getElem? (i := 3) rfl) (by decide) (List.mem_of_getElem? (i := 5) rfl) (List.mem_of_getElem? (i := 6) rfl) (atm_X6_stretch_56) gb_X6_56 (List.mem_of_getElem? (i := 0) rfl) (gd_X6_56) dX6_stretch_65 dX6_stretch_68 dX6_stretch_69 dX6_stretch_71 dX6_stretch_74 (Nat.le_of_ble_eq_true rfl) (Nat.le_of_ble_eq_true rfl) (Nat.le_of_ble_eq_true rfl) (Nat.le_of_ble_eq_true rfl) (by decide) (by decide) (⟨Or.inr (Or.inr (Or.inr ⟨rfl, ⟨h1, h2⟩, ⟨hw11, hw21⟩, by omega, by omega⟩)), rfl⟩)
        · skip
          exact V_throw X hno rfl (List.mem_of_getElem? (i := 2) rfl) (by decide) (List.mem_of_getElem? (i := 3) rfl) (List.mem_of_getElem? (i := 4) rfl) (atm_X6_stretch_80) gb_X6_80 (List.mem_of_getElem? (i := 3) rfl) (gd_X6_80) dX6_stretch_45 dX6_stretch_48 dX6_stretch_49 dX6_stretch_51 dX6_stretch_54 (Nat.le_of_ble_eq_true rfl) (Nat.le_of_ble_eq_true rfl) (Nat.le_of_ble_eq_true rfl) (Nat.le_of_ble_eq_true rfl) (by decide) (by decide) (⟨Or.inr (Or.inr (Or.inl ⟨rfl, ⟨h1, h2⟩, ⟨hw11, hw21⟩, by omega⟩)), rfl⟩)
      · skip
        rw [if_neg hw21] at hz9
        subst hz9
        refine V_if_ne X 37 ⟨by decide, by decide⟩ dX6_stretch_24 (by decide) (fun h => absurd h (by first | decide | omega)) (fun _ => ?_)
        exact V_throw X hno rfl (List.mem_of_getElem? (i := 1) rfl) (by decide) (List.mem_of_getElem? (i := 1) rfl) (List.mem_of_getElem? (i := 2) rfl) (atm_X6_stretch_71) gb_X6_71 (List.mem_of_getElem? (i := 1) rfl) (gd_X6_71) dX6_stretch_27 dX6_stretch_30 dX6_stretch_31 dX6_stretch_33 dX6_stretch_36 (Nat.le_of_ble_eq_true rfl) (Nat.le_of_ble_eq_true rfl) (Nat.le_of_ble_eq_true rfl) (Nat.le_of_ble_eq_true rfl) (by decide) (by decide) (⟨Or.inr (Or.inl ⟨rfl, ⟨h1, h2⟩, by omega⟩), rfl⟩)
    · skip
      rw [if_neg hw11] at hz9
      subst hz9
      refine V_if_eq X 27 ⟨by decide, by decide⟩ dX6_stretch_14 (by decide) (fun _ => ?_) (fun h => absurd h (by first | decide | omega))
      exact V_throw X hno rfl (List.mem_of_getElem? (i := 1) rfl) (by decide) (List.mem_of_getElem? (i := 1) rfl) (List.mem_of_getElem? (i := 2) rfl) (atm_X6_stretch_71) gb_X6_71 (List.mem_of_getElem? (i := 1) rfl) (gd_X6_71) dX6_stretch_27 dX6_stretch_30 dX6_stretch_31 dX6_stretch_33 dX6_stretch_36 (Nat.le_of_ble_eq_true rfl) (Nat.le_of_ble_eq_true rfl) (Nat.le_of_ble_eq_true rfl) (Nat.le_of_ble_eq_true rfl) (by decide) (by decide) (⟨Or.inr (Or.inl ⟨rfl, ⟨h1, h2⟩, by omega⟩), rfl⟩)
theorem atm_X6_car_56 : ∀ w ∈ vx_atS RX6 56 "java/lang/IllegalStateException" ["java/lang/RuntimeException", "java/lang/Exception"], goodWord w = true → w ∈ wsX6_car := fun w h0 hg0 => by
  have h := List.mem_filter.mpr ⟨h0, hg0⟩
  exact List.mem_cons_of_mem _ (List.mem_append_right _ h)
theorem atm_X6_car_71 : ∀ w ∈ vx_atS RX6 71 "java/lang/IllegalArgumentException" ["java/lang/RuntimeException", "java/lang/Exception"], goodWord w = true → w ∈ wsX6_car := fun w h0 hg0 => by
  have h := List.mem_filter.mpr ⟨h0, hg0⟩
  exact List.mem_cons_of_mem _ (List.mem_append_left _ (List.mem_append_right _ h))
set_option maxRecDepth 100000 in
set_option maxHeartbeats 4000000 in
theorem m_X6_car (g : Geo) (l : Launch) (hl9 : l.stackTraces = false) (σ : St) (hR : RG σ) (a b d : Int) (ha : R32 a) (hb : R32 b) (hd : R32 d) (c0 : Nat) (hc0 : σ.1 0 3 = (c0 : Int)) : vx_Met l yX6_car wsX6_car ({ frames := 6, cells := 1, slots := 6, locals := 90 }) (va_Pc [.ref (ga g (0)), .int (iN (a)), .int (iN (b)), .int (iN (d))] (World g σ)) (QI g (fun z u => ((1 ≤ a ∧ a ≤ 9) ∧ (1 ≤ b ∧ b ≤ 4) ∧ 0 ≤ d ∧ d ≤ 3) ∧ c0 < 4 ∧ z = σ.1 0 3 ∧ u = carF σ c0 a b d)) (XT g (fun E u => ((E = "java/lang/IllegalArgumentException" ∧ ¬ ((1 ≤ a ∧ a ≤ 9) ∧ (1 ≤ b ∧ b ≤ 4) ∧ 0 ≤ d ∧ d ≤ 3)) ∨ (E = "java/lang/IllegalStateException" ∧ ((1 ≤ a ∧ a ≤ 9) ∧ (1 ≤ b ∧ b ≤ 4) ∧ 0 ≤ d ∧ d ≤ 3) ∧ ¬ c0 < 4)) ∧ u = σ)) 1 6 (gA g) := by
  refine V_metX hl9 (by decide) rfl (Nat.le_of_ble_eq_true rfl) ?_
  intro p9 e9 s9 m9 b9 t9 c9 X hno hr
  refine V_lv (lv' := [(0, .ref (ga g (0))), (1, .int (iN (a))), (2, .int (iN (b))), (3, .int (iN (d)))]) rfl ?_
  refine V_iload_n X 1 rfl dX6_car_0 rfl ?_
  refine V_iconst X dX6_car_1 ?_
  refine V_bipush X (by decide) dX6_car_2 ?_
  refine V_callS_I X (na := 3) (m_X6_isWithin g l hl9 σ a 1 9 ha ⟨by decide, by decide⟩ ⟨by decide, by decide⟩) gX6_car_X6_isWithin rfl rfl rfl (by decide +kernel) ⟨Nat.le_of_ble_eq_true rfl, Nat.le_of_ble_eq_true rfl⟩ rfl rfl (Nat.le_of_ble_eq_true rfl) ⟨Nat.le_of_ble_eq_true rfl, Nat.le_of_ble_eq_true rfl⟩ dX6_car_4 (fun z1 u2 z1r hp3 => ?_)
  obtain ⟨hz9, hu4⟩ := hp3
  have hu4 := hu4.symm
  subst hu4
  rcases Classical.em (1 ≤ a ∧ a ≤ 9) with hw4 | hw4
  · skip
    rw [if_pos hw4] at hz9
    subst hz9
    refine V_if_eq X 28 ⟨by decide, by decide⟩ dX6_car_7 (by decide) (fun h => absurd h (by first | decide | omega)) (fun _ => ?_)
    refine V_iload_n X 2 rfl dX6_car_10 rfl ?_
    refine V_iconst X dX6_car_11 ?_
    refine V_iconst X dX6_car_12 ?_
    refine V_callS_I X (na := 3) (m_X6_isWithin g l hl9 σ b 1 4 hb ⟨by decide, by decide⟩ ⟨by decide, by decide⟩) gX6_car_X6_isWithin rfl rfl rfl (by decide +kernel) ⟨Nat.le_of_ble_eq_true rfl, Nat.le_of_ble_eq_true rfl⟩ rfl rfl (Nat.le_of_ble_eq_true rfl) ⟨Nat.le_of_ble_eq_true rfl, Nat.le_of_ble_eq_true rfl⟩ dX6_car_13 (fun z5 u6 z5r hp7 => ?_)
    obtain ⟨hz9, hu8⟩ := hp7
    have hu8 := hu8.symm
    subst hu8
    rcases Classical.em (1 ≤ b ∧ b ≤ 4) with hw13 | hw13
    · skip
      rw [if_pos hw13] at hz9
      subst hz9
      refine V_if_eq X 28 ⟨by decide, by decide⟩ dX6_car_16 (by decide) (fun h => absurd h (by first | decide | omega)) (fun _ => ?_)
      refine V_iload_n X 3 rfl dX6_car_19 rfl ?_
      refine V_iconst X dX6_car_20 ?_
      refine V_iconst X dX6_car_21 ?_
      refine V_callS_I X (na := 3) (m_X6_isWithin g l hl9 σ d 0 3 hd ⟨by decide, by decide⟩ ⟨by decide, by decide⟩) gX6_car_X6_isWithin rfl rfl rfl (by decide +kernel) ⟨Nat.le_of_ble_eq_true rfl, Nat.le_of_ble_eq_true rfl⟩ rfl rfl (Nat.le_of_ble_eq_true rfl) ⟨Nat.le_of_ble_eq_true rfl, Nat.le_of_ble_eq_true rfl⟩ dX6_car_22 (fun z9 u10 z9r hp11 => ?_)
      obtain ⟨hz9, hu12⟩ := hp11
      have hu12 := hu12.symm
      subst hu12
      rcases Classical.em (0 ≤ d ∧ d ≤ 3) with hw22 | hw22
      · skip
        rw [if_pos hw22] at hz9
        subst hz9
        refine V_if_ne X 38 ⟨by decide, by decide⟩ dX6_car_25 (by decide) (fun _ => ?_) (fun h => absurd h (by first | decide | omega))
        refine V_aload_n X 0 rfl dX6_car_38 rfl ?_
        refine V_get X (ci := 6) (0) (by decide) (rfl) (by decide) rfl (fun _ h => List.mem_cons_of_mem _ (List.mem_append_left _ (List.mem_append_left _ (List.mem_append_left _ (List.mem_append_right _ h))))) 3 (by decide) (List.mem_of_getElem? (i := 5) rfl) rfl rfl dX6_car_39 ?_
        refine V_iconst X dX6_car_42 ?_
        refine V_icmp_lt X 56 (hR _ _) ⟨by decide, by decide⟩ dX6_car_43 (by decide) (fun q13 => ?_) (fun q13 => ?_)
        · skip
          refine V_aload_n X 0 rfl dX6_car_56 rfl ?_
          refine V_get X (ci := 6) (0) (by decide) (rfl) (by decide) rfl (fun _ h => List.mem_cons_of_mem _ (List.mem_append_left _ (List.mem_append_left _ (List.mem_append_left _ (List.mem_append_right _ h))))) 2 (by decide) (List.mem_of_getElem? (i := 6) rfl) rfl rfl dX6_car_57 ?_
          refine V_aload_n X 0 rfl dX6_car_60 rfl ?_
          refine V_get X (ci := 6) (0) (by decide) (rfl) (by decide) rfl (fun _ h => List.mem_cons_of_mem _ (List.mem_append_left _ (List.mem_append_left _ (List.mem_append_left _ (List.mem_append_right _ h))))) 3 (by decide) (List.mem_of_getElem? (i := 5) rfl) rfl rfl dX6_car_61 ?_
          refine V_aald15 X (2) (by decide) (rfl) (c0) (hc0) (by omega) dX6_car_64 ?_
          refine V_astore X [(4, .ref (ga g (85 + c0))), (0, .ref (ga g (0))), (1, .int (iN (a))), (2, .int (iN (b))), (3, .int (iN (d)))] dX6_car_65 (by decide) rfl ?_
          refine V_aload X 0 rfl dX6_car_67 ?_
          refine V_iload_n X 2 rfl dX6_car_69 rfl ?_
          refine V_put X (ci := 1) (85 + c0) (by omega) (kd_car (by omega)) (by decide) rfl (fun _ h => List.mem_cons_of_mem _ (List.mem_append_left _ (List.mem_append_left _ (List.mem_append_right _ h)))) 0 (by decide) (List.mem_of_getElem? (i := 7) rfl) rfl tyX1 tyX1_ok nmX1 rfl rfl rfl rfl rfl (Nat.le_of_ble_eq_true rfl) dX6_car_70 ?_
          refine V_aload X 0 rfl dX6_car_73 ?_
          refine V_iload_n X 3 rfl dX6_car_75 rfl ?_
          refine V_put X (ci := 1) (85 + c0) (by omega) (kd_car (by omega)) (by decide) rfl (fun _ h => List.mem_cons_of_mem _ (List.mem_append_left _ (List.mem_append_left _ (List.mem_append_right _ h)))) 1 (by decide) (List.mem_of_getElem? (i := 8) rfl) rfl tyX1 tyX1_ok nmX1 rfl rfl rfl rfl rfl (Nat.le_of_ble_eq_true rfl) dX6_car_76 ?_
          refine V_aload X 0 rfl dX6_car_79 ?_
          refine V_iload_n X 4 rfl dX6_car_81 rfl ?_
          refine V_put X (ci := 1) (85 + c0) (by omega) (kd_car (by omega)) (by decide) rfl (fun _ h => List.mem_cons_of_mem _ (List.mem_append_left _ (List.mem_append_left _ (List.mem_append_right _ h)))) 2 (by decide) (List.mem_of_getElem? (i := 9) rfl) rfl tyX1 tyX1_ok nmX1 rfl rfl rfl rfl rfl (Nat.le_of_ble_eq_true rfl) dX6_car_82 ?_
          refine V_aload_n X 1 rfl dX6_car_85 rfl ?_
          refine V_dup X rfl dX6_car_86 ?_
          refine V_get X (ci := 6) (0) (by decide) (rfl) (by decide) rfl (fun _ h => List.mem_cons_of_mem _ (List.mem_append_left _ (List.mem_append_left _ (List.mem_append_left _ (List.mem_append_right _ h))))) 3 (by decide) (List.mem_of_getElem? (i := 5) rfl) rfl rfl dX6_car_87 ?_
          refine V_top (b := σ.1 0 3) (Eq.trans (rd_k (by decide)) (Eq.trans (rd_k (by decide)) (rd_k (by decide)))) ?_
          refine V_iconst X dX6_car_90 ?_
          refine V_iadd X dX6_car_91 ?_
          refine V_put X (ci := 6) (0) (by decide) (rfl) (by decide) rfl (fun _ h => List.mem_cons_of_mem _ (List.mem_append_left _ (List.mem_append_left _ (List.mem_append_left _ (List.mem_append_right _ h))))) 3 (by decide) (List.mem_of_getElem? (i := 5) rfl) rfl tyX6 tyX6_ok nmX6 rfl rfl rfl rfl rfl (Nat.le_of_ble_eq_true rfl) dX6_car_92 ?_
          refine V_aload_n X 1 rfl dX6_car_95 rfl ?_
          refine V_get X (ci := 6) (0) (by decide) (rfl) (by decide) rfl (fun _ h => List.mem_cons_of_mem _ (List.mem_append_left _ (List.mem_append_left _ (List.mem_append_left _ (List.mem_append_right _ h))))) 3 (by decide) (List.mem_of_getElem? (i := 5) rfl) rfl rfl dX6_car_96 ?_
          refine V_top (b := (σ.1 0 3) + 1) rd_s ?_
          refine V_iconst X dX6_car_99 ?_
          refine V_isub X dX6_car_100 ?_
          refine V_top (b := σ.1 0 3) (by omega) ?_
          exact V_iretX X hr rfl (hR _ _) (by exact ⟨⟨hw4, hw13, hw22⟩, by omega, rfl, rfl⟩) dX6_car_101 (by decide) (by decide)
        · skip
          exact V_throw X hno rfl (List.mem_of_getElem? (i := 5) rfl) (by decide) (List.mem_of_getElem? (i := 3) rfl) (List.mem_of_getElem? (i := 4) rfl) (atm_X6_car_56) gb_X6_56 (List.mem_of_getElem? (i := 0) rfl) (gd_X6_56) dX6_car_46 dX6_car_49 dX6_car_50 dX6_car_52 dX6_car_55 (Nat.le_of_ble_eq_true rfl) (Nat.le_of_ble_eq_true rfl) (Nat.le_of_ble_eq_true rfl) (Nat.le_of_ble_eq_true rfl) (by decide) (by decide) (⟨Or.inr ⟨rfl, ⟨hw4, hw13, hw22⟩, by omega⟩, rfl⟩)
      · skip
        rw [if_neg hw22] at hz9
        subst hz9
        refine V_if_ne X 38 ⟨by decide, by decide⟩ dX6_car_25 (by decide) (fun h => absurd h (by first | decide | omega)) (fun _ => ?_)
        exact V_throw X hno rfl (List.mem_of_getElem? (i := 4) rfl) (by decide) (List.mem_of_getElem? (i := 1) rfl) (List.mem_of_getElem? (i := 2) rfl) (atm_X6_car_71) gb_X6_71 (List.mem_of_getElem? (i := 1) rfl) (gd_X6_71) dX6_car_28 dX6_car_31 dX6_car_32 dX6_car_34 dX6_car_37 (Nat.le_of_ble_eq_true rfl) (Nat.le_of_ble_eq_true rfl) (Nat.le_of_ble_eq_true rfl) (Nat.le_of_ble_eq_true rfl) (by decide) (by decide) (⟨Or.inl ⟨rfl, by omega⟩, rfl⟩)
    · skip
      rw [if_neg hw13] at hz9
      subst hz9
      refine V_if_eq X 28 ⟨by decide, by decide⟩ dX6_car_16 (by decide) (fun _ => ?_) (fun h => absurd h (by first | decide | omega))
      exact V_throw X hno rfl (List.mem_of_getElem? (i := 4) rfl) (by decide) (List.mem_of_getElem? (i := 1) rfl) (List.mem_of_getElem? (i := 2) rfl) (atm_X6_car_71) gb_X6_71 (List.mem_of_getElem? (i := 1) rfl) (gd_X6_71) dX6_car_28 dX6_car_31 dX6_car_32 dX6_car_34 dX6_car_37 (Nat.le_of_ble_eq_true rfl) (Nat.le_of_ble_eq_true rfl) (Nat.le_of_ble_eq_true rfl) (Nat.le_of_ble_eq_true rfl) (by decide) (by decide) (⟨Or.inl ⟨rfl, by omega⟩, rfl⟩)
  · skip
    rw [if_neg hw4] at hz9
    subst hz9
    refine V_if_eq X 28 ⟨by decide, by decide⟩ dX6_car_7 (by decide) (fun _ => ?_) (fun h => absurd h (by first | decide | omega))
    exact V_throw X hno rfl (List.mem_of_getElem? (i := 4) rfl) (by decide) (List.mem_of_getElem? (i := 1) rfl) (List.mem_of_getElem? (i := 2) rfl) (atm_X6_car_71) gb_X6_71 (List.mem_of_getElem? (i := 1) rfl) (gd_X6_71) dX6_car_28 dX6_car_31 dX6_car_32 dX6_car_34 dX6_car_37 (Nat.le_of_ble_eq_true rfl) (Nat.le_of_ble_eq_true rfl) (Nat.le_of_ble_eq_true rfl) (Nat.le_of_ble_eq_true rfl) (by decide) (by decide) (⟨Or.inl ⟨rfl, by omega⟩, rfl⟩)
theorem atm_X6_limitAt_113 : ∀ w ∈ vx_atN RX6 113 "java/util/NoSuchElementException" ["java/lang/RuntimeException", "java/lang/Exception"], goodWord w = true → w ∈ wsX6_limitAt := fun w h0 hg0 => by
  have h := List.mem_filter.mpr ⟨h0, hg0⟩
  exact List.mem_cons_of_mem _ (List.mem_append_left _ (List.mem_append_right _ h))
set_option maxRecDepth 100000 in
set_option maxHeartbeats 4000000 in
theorem m_X6_limitAt (g : Geo) (l : Launch) (hl9 : l.stackTraces = false) (σ : St) (hR : RG σ) (a p : Int) (ha : R32 a) (hp0 : R32 p) (hT4 : σ.1 0 1 ≤ 4) (hTk : ∀ t, t < 4 → 0 ≤ σ.1 (73 + 3 * t) 2 ∧ σ.1 (73 + 3 * t) 2 ≤ 12) : vx_Met l yX6_limitAt wsX6_limitAt ({ frames := 7, cells := 2, slots := 12, locals := 111 }) (va_Pc [.ref (ga g (0)), .int (iN (a)), .int (iN (p))] (World g σ)) (QI g (fun z u => (0 ≤ a ∧ a < σ.1 0 1) ∧ (0 ≤ p ∧ p < σ.1 (73 + 3 * a.toNat) 3) ∧ z = limG (σ.1 (73 + 3 * a.toNat + 1)) (σ.1 (73 + 3 * a.toNat + 2)) p 0 (σ.1 (73 + 3 * a.toNat) 2).toNat ∧ u = σ)) (XT g (fun E u => ((E = "java/lang/IndexOutOfBoundsException" ∧ ¬ (0 ≤ a ∧ a < σ.1 0 1)) ∨ (E = "java/util/NoSuchElementException" ∧ (0 ≤ a ∧ a < σ.1 0 1) ∧ ¬ (0 ≤ p ∧ p < σ.1 (73 + 3 * a.toNat) 3))) ∧ u = σ)) 2 12 (gA g) := by
  refine V_metX hl9 (by decide) rfl (Nat.le_of_ble_eq_true rfl) ?_
  intro p9 e9 s9 m9 b9 t9 c9 X hno hr
  refine V_lv (lv' := [(0, .ref (ga g (0))), (1, .int (iN (a))), (2, .int (iN (p)))]) rfl ?_
  refine V_aload_n X 0 rfl dX6_limitAt_0 rfl ?_
  refine V_iload_n X 1 rfl dX6_limitAt_1 rfl ?_
  refine V_callV_Rx X (na := 1) (ci := 6) (b0 := 0) (by decide) (rfl) (by decide) rfl (m_X6_trackNumbered g l hl9 σ hR a ha hT4) gX6_limitAt_X6_trackNumbered rfl rfl rfl (by decide +kernel) ⟨Nat.le_of_ble_eq_true rfl, Nat.le_of_ble_eq_true rfl⟩ rfl rfl (Nat.le_of_ble_eq_true rfl) ⟨Nat.le_of_ble_eq_true rfl, Nat.le_of_ble_eq_true rfl⟩ dX6_limitAt_2 (fun E u hp => ?_) (fun z1 u2 hp3 => ?_)
  · skip
    exact VX_out X hno (⟨Or.inl ⟨hp.1, hp.2.1⟩, hp.2.2⟩) (by decide) (by decide)
  · skip
    obtain ⟨h1, h2, hb, hu4⟩ := hp3
    have hu4 := hu4.symm
    subst hu4
    subst hb
    refine V_astore_n X [(3, .ref (ga g (73 + 3 * a.toNat))), (0, .ref (ga g (0))), (1, .int (iN (a))), (2, .int (iN (p)))] dX6_limitAt_5 rfl (by decide) rfl ?_
    refine V_iload_n X 3 rfl dX6_limitAt_6 rfl ?_
    refine V_if_lt X 18 hp0 dX6_limitAt_7 (by decide) (fun q5 => ?_) (fun q5 => ?_)
    · skip
      exact V_throwN X hno rfl (List.mem_of_getElem? (i := 6) rfl) (by decide) (List.mem_of_getElem? (i := 1) rfl) (List.mem_of_getElem? (i := 2) rfl) (atm_X6_limitAt_113) gb_X6_113 (List.mem_of_getElem? (i := 4) rfl) (gd_X6_113) dX6_limitAt_18 dX6_limitAt_21 dX6_limitAt_22 dX6_limitAt_24 dX6_limitAt_27 (Nat.le_of_ble_eq_true rfl) (Nat.le_of_ble_eq_true rfl) (Nat.le_of_ble_eq_true rfl) (Nat.le_of_ble_eq_true rfl) (by decide) (by decide) (⟨Or.inr ⟨rfl, ⟨h1, h2⟩, by omega⟩, rfl⟩)
    · skip
      refine V_iload_n X 3 rfl dX6_limitAt_10 rfl ?_
      refine V_aload_n X 0 rfl dX6_limitAt_11 rfl ?_
      refine V_get X (ci := 5) (73 + 3 * a.toNat) (by omega) (kd_tr (by omega)) (by decide) rfl (fun _ h => List.mem_cons_of_mem _ (List.mem_append_left _ (List.mem_append_left _ (List.mem_append_left _ (List.mem_append_right _ h))))) 3 (by decide) (List.mem_of_getElem? (i := 3) rfl) rfl rfl dX6_limitAt_12 ?_
      refine V_icmp_lt X 28 hp0 (hR _ _) dX6_limitAt_15 (by decide) (fun q6 => ?_) (fun q6 => ?_)
      · skip
        refine V_aload_n X 0 rfl dX6_limitAt_28 rfl ?_
        refine V_iload_n X 3 rfl dX6_limitAt_29 rfl ?_
        have hk := hTk a.toNat (by omega)
        refine V_callV_I X (na := 1) (ci := 5) (b0 := 73 + 3 * a.toNat) (by omega) (kd_tr (by omega)) (by decide) rfl (m_X5_limitOf g l hl9 σ hR a.toNat (by omega) (σ.1 (73 + 3 * a.toNat) 2).toNat (by omega) (by omega) p hp0) gX6_limitAt_X5_limitOf rfl rfl rfl (by decide +kernel) ⟨Nat.le_of_ble_eq_true rfl, Nat.le_of_ble_eq_true rfl⟩ rfl rfl (Nat.le_of_ble_eq_true rfl) ⟨Nat.le_of_ble_eq_true rfl, Nat.le_of_ble_eq_true rfl⟩ dX6_limitAt_30 (fun z7 u8 z7r hp9 => ?_)
        obtain ⟨hz, hu10⟩ := hp9
        have hu10 := hu10.symm
        subst hu10
        exact V_iretX X hr rfl z7r (by exact ⟨⟨h1, h2⟩, ⟨by omega, by omega⟩, hz, rfl⟩) dX6_limitAt_33 (by decide) (by decide)
      · skip
        exact V_throwN X hno rfl (List.mem_of_getElem? (i := 6) rfl) (by decide) (List.mem_of_getElem? (i := 1) rfl) (List.mem_of_getElem? (i := 2) rfl) (atm_X6_limitAt_113) gb_X6_113 (List.mem_of_getElem? (i := 4) rfl) (gd_X6_113) dX6_limitAt_18 dX6_limitAt_21 dX6_limitAt_22 dX6_limitAt_24 dX6_limitAt_27 (Nat.le_of_ble_eq_true rfl) (Nat.le_of_ble_eq_true rfl) (Nat.le_of_ble_eq_true rfl) (Nat.le_of_ble_eq_true rfl) (by decide) (by decide) (⟨Or.inr ⟨rfl, ⟨h1, h2⟩, by omega⟩, rfl⟩)
theorem atm_X6_type_56 : ∀ w ∈ vx_atS RX6 56 "java/lang/IllegalStateException" ["java/lang/RuntimeException", "java/lang/Exception"], goodWord w = true → w ∈ wsX6_type := fun w h0 hg0 => by
  have h := List.mem_filter.mpr ⟨h0, hg0⟩
  exact List.mem_cons_of_mem _ (List.mem_append_right _ h)
theorem atm_X6_type_71 : ∀ w ∈ vx_atS RX6 71 "java/lang/IllegalArgumentException" ["java/lang/RuntimeException", "java/lang/Exception"], goodWord w = true → w ∈ wsX6_type := fun w h0 hg0 => by
  have h := List.mem_filter.mpr ⟨h0, hg0⟩
  exact List.mem_cons_of_mem _ (List.mem_append_left _ (List.mem_append_right _ h))
set_option maxRecDepth 100000 in
set_option maxHeartbeats 4000000 in
theorem m_X6_type (g : Geo) (l : Launch) (hl9 : l.stackTraces = false) (σ : St) (hR : RG σ) (a k : Int) (ha : R32 a) (hac : 0 ≤ a ∧ a < 65536) (hk : R32 k) (ty : Nat) (hty : σ.1 0 5 = (ty : Int)) (hty60 : ty ≤ 60) : vx_Met l yX6_type wsX6_type ({ frames := 6, cells := 1, slots := 6, locals := 90 }) (va_Pc [.ref (ga g (0)), .int (iN (a)), .int (iN (k))] (World g σ)) (QI g (fun z u => ((a = 43 ∨ a = 45 ∨ a = 61) ∧ 1 ≤ k ∧ k ≤ 20) ∧ ty + k.toNat ≤ 60 ∧ z = ((ty + k.toNat : Nat) : Int) ∧ u = sw (tyS σ a ty (ty + k.toNat)) 0 5 ((ty + k.toNat : Nat) : Int))) (XT g (fun E u => ((E = "java/lang/IllegalArgumentException" ∧ ¬ ((a = 43 ∨ a = 45 ∨ a = 61) ∧ 1 ≤ k ∧ k ≤ 20)) ∨ (E = "java/lang/IllegalStateException" ∧ ((a = 43 ∨ a = 45 ∨ a = 61) ∧ 1 ≤ k ∧ k ≤ 20) ∧ ¬ ty + k.toNat ≤ 60)) ∧ u = σ)) 1 6 (gA g) := by
  refine V_metX hl9 (by decide) rfl (Nat.le_of_ble_eq_true rfl) ?_
  intro p9 e9 s9 m9 b9 t9 c9 X hno hr
  refine V_lv (lv' := [(0, .ref (ga g (0))), (1, .int (iN (a))), (2, .int (iN (k)))]) rfl ?_
  refine V_iload_n X 1 rfl dX6_type_0 rfl ?_
  refine V_bipush X (by decide) dX6_type_1 ?_
  refine V_icmp_eq X 18 ha ⟨by decide, by decide⟩ dX6_type_3 (by decide) (fun q1 => ?_) (fun q1 => ?_)
  · skip
    refine V_iconst X dX6_type_18 ?_
    refine V_goto X 23 dX6_type_19 (by decide) ?_
    refine V_istore_n X [(3, .int (iN (1))), (0, .ref (ga g (0))), (1, .int (iN (a))), (2, .int (iN (k)))] dX6_type_23 rfl (by decide) rfl ?_
    refine V_iload_n X 0 rfl dX6_type_24 rfl ?_
    refine V_if_eq X 38 ⟨by decide, by decide⟩ dX6_type_25 (by decide) (fun h => absurd h (by first | decide | omega)) (fun _ => ?_)
    refine V_iload_n X 3 rfl dX6_type_28 rfl ?_
    refine V_iconst X dX6_type_29 ?_
    refine V_bipush X (by decide) dX6_type_30 ?_
    refine V_callS_I X (na := 3) (m_X6_isWithin g l hl9 σ k 1 20 hk ⟨by decide, by decide⟩ ⟨by decide, by decide⟩) gX6_type_X6_isWithin rfl rfl rfl (by decide +kernel) ⟨Nat.le_of_ble_eq_true rfl, Nat.le_of_ble_eq_true rfl⟩ rfl rfl (Nat.le_of_ble_eq_true rfl) ⟨Nat.le_of_ble_eq_true rfl, Nat.le_of_ble_eq_true rfl⟩ dX6_type_32 (fun z2 u3 z2r hp4 => ?_)
    obtain ⟨hz9, hu5⟩ := hp4
    have hu5 := hu5.symm
    subst hu5
    rcases Classical.em (1 ≤ k ∧ k ≤ 20) with hw32 | hw32
    · skip
      rw [if_pos hw32] at hz9
      subst hz9
      refine V_if_ne X 48 ⟨by decide, by decide⟩ dX6_type_35 (by decide) (fun _ => ?_) (fun h => absurd h (by first | decide | omega))
      refine V_aload_n X 1 rfl dX6_type_48 rfl ?_
      refine V_get X (ci := 6) (0) (by decide) (rfl) (by decide) rfl (fun _ h => List.mem_cons_of_mem _ (List.mem_append_left _ (List.mem_append_left _ (List.mem_append_right _ h)))) 5 (by decide) (List.mem_of_getElem? (i := 5) rfl) rfl rfl dX6_type_49 ?_
      refine V_iload_n X 3 rfl dX6_type_52 rfl ?_
      refine V_iadd X dX6_type_53 ?_
      refine V_top (b := ((ty + k.toNat : Nat) : Int)) (by omega) ?_
      refine V_istore X [(4, .int (iN (((ty + k.toNat : Nat) : Int)))), (3, .int (iN (1))), (0, .ref (ga g (0))), (1, .int (iN (a))), (2, .int (iN (k)))] dX6_type_54 (by decide) rfl ?_
      refine V_iload X 0 rfl dX6_type_56 ?_
      refine V_bipush X (by decide) dX6_type_58 ?_
      refine V_icmp_le X 73 ⟨by omega, by omega⟩ ⟨by decide, by decide⟩ dX6_type_60 (by decide) (fun q6 => ?_) (fun q6 => ?_)
      · skip
        refine V_aload_n X 2 rfl dX6_type_73 rfl ?_
        refine V_get X (ci := 6) (0) (by decide) (rfl) (by decide) rfl (fun _ h => List.mem_cons_of_mem _ (List.mem_append_left _ (List.mem_append_left _ (List.mem_append_right _ h)))) 5 (by decide) (List.mem_of_getElem? (i := 5) rfl) rfl rfl dX6_type_74 ?_
        refine V_istore X [(5, .int (iN (σ.1 0 5))), (4, .int (iN (((ty + k.toNat : Nat) : Int)))), (3, .int (iN (1))), (0, .ref (ga g (0))), (1, .int (iN (a))), (2, .int (iN (k)))] dX6_type_77 (by decide) rfl ?_
        refine V_sub (lv' := [(0, .ref (ga g (0))), (1, .int (iN (a))), (2, .int (iN (k))), (3, .int (iN (1))), (4, .int (iN (((ty + k.toNat : Nat) : Int)))), (5, .int (iN (σ.1 0 5)))]) [3, 4, 5, 2, 1, 0] rfl ?_
        refine V_lv (congrArg (fun q : Int => ([(0, .ref (ga g (0))), (1, .int (iN (a))), (2, .int (iN (k))), (3, .int (iN (1))), (4, .int (iN (((ty + k.toNat : Nat) : Int)))), (5, .int (iN q))] : List (Nat × Value))) (show σ.1 0 5 = ((ty : Nat) : Int) from hty)) ?_
        refine V_up (N := (ty + k.toNat)) (fun (i : Nat) (u : St) (lw : List (Nat × Value)) => True ∧ [(0, .ref (ga g (0))), (1, .int (iN (a))), (2, .int (iN (k))), (3, .int (iN (1))), (4, .int (iN (((ty + k.toNat : Nat) : Int)))), (5, .int (iN (((i : Nat) : Int))))] = lw ∧ (u = tyS σ a ty i ∧ ty ≤ i)) (i0 := ty) (by omega) ⟨trivial, rfl, ⟨tyS_0.symm, Nat.le_refl _⟩⟩ ?_ ?_
        · skip
          rintro u1 _ ⟨-, rfl, ⟨hv, hti⟩⟩
          refine V_iload X 5 rfl dX6_type_79 ?_
          refine V_iload X 4 rfl dX6_type_81 ?_
          refine V_icmp_ge X 100 ⟨by omega, by omega⟩ ⟨by omega, by omega⟩ dX6_type_83 (by decide) (fun _ => ?_) (fun h => absurd h (by omega))
          refine V_aload_n X 0 rfl dX6_type_100 rfl ?_
          refine V_iload X 4 rfl dX6_type_101 ?_
          refine V_put X (ci := 6) (0) (by decide) (rfl) (by decide) rfl (fun _ h => List.mem_cons_of_mem _ (List.mem_append_left _ (List.mem_append_left _ (List.mem_append_right _ h)))) 5 (by decide) (List.mem_of_getElem? (i := 5) rfl) rfl tyX6 tyX6_ok nmX6 rfl rfl rfl rfl rfl (Nat.le_of_ble_eq_true rfl) dX6_type_103 ?_
          refine V_aload_n X 0 rfl dX6_type_106 rfl ?_
          refine V_get X (ci := 6) (0) (by decide) (rfl) (by decide) rfl (fun _ h => List.mem_cons_of_mem _ (List.mem_append_left _ (List.mem_append_left _ (List.mem_append_right _ h)))) 5 (by decide) (List.mem_of_getElem? (i := 5) rfl) rfl rfl dX6_type_107 ?_
          refine V_top (b := ((ty + k.toNat : Nat) : Int)) rd_s ?_
          exact V_iretX X hr rfl ⟨by omega, by omega⟩ (by exact ⟨by omega, by omega, rfl, by rw [hv]⟩) dX6_type_110 (by decide) (by decide)
        · skip
          rintro i u1 _ hiN ⟨-, rfl, ⟨hv, hti⟩⟩ kk
          refine V_iload X 5 rfl dX6_type_79 ?_
          refine V_iload X 4 rfl dX6_type_81 ?_
          refine V_icmp_ge X 100 ⟨by omega, by omega⟩ ⟨by omega, by omega⟩ dX6_type_83 (by decide) (fun h => absurd h (by omega)) (fun _ => ?_)
          refine V_aload_n X 0 rfl dX6_type_86 rfl ?_
          refine V_get X (ci := 6) (0) (by decide) (rfl) (by decide) rfl (fun _ h => List.mem_cons_of_mem _ (List.mem_append_left _ (List.mem_append_left _ (List.mem_append_right _ h)))) 4 (by decide) (List.mem_of_getElem? (i := 6) rfl) rfl rfl dX6_type_87 ?_
          refine V_iload X 5 rfl dX6_type_90 ?_
          refine V_iload_n X 1 rfl dX6_type_92 rfl ?_
          refine V_cast X (N := 60) (3) (by decide) (rfl) (rfl) (by decide) (i) (rfl) (by omega) (by omega) (by omega) dX6_type_93 ?_
          refine V_iinc X [(5, .int (iN (((i : Nat) : Int) + 1))), (0, .ref (ga g (0))), (1, .int (iN (a))), (2, .int (iN (k))), (3, .int (iN (1))), (4, .int (iN (((ty + k.toNat : Nat) : Int))))] 5 (((i : Nat) : Int) + 1) (rfl) rfl dX6_type_94 (by decide) rfl ?_
          refine V_goto X 79 dX6_type_97 (by decide) ?_
          refine V_sub (lv' := [(0, .ref (ga g (0))), (1, .int (iN (a))), (2, .int (iN (k))), (3, .int (iN (1))), (4, .int (iN (((ty + k.toNat : Nat) : Int)))), (5, .int (iN (((i : Nat) : Int) + 1)))]) [1, 2, 3, 4, 5, 0] rfl ?_
          refine V_lv (congrArg (fun q : Int => ([(0, .ref (ga g (0))), (1, .int (iN (a))), (2, .int (iN (k))), (3, .int (iN (1))), (4, .int (iN (((ty + k.toNat : Nat) : Int)))), (5, .int (iN q))] : List (Nat × Value))) (show ((i : Nat) : Int) + 1 = (((i + 1) : Nat) : Int) from by omega)) ?_
          exact kk _ _ ⟨trivial, rfl, ⟨by rw [hv]; exact tyS_s hti, by omega⟩⟩
      · skip
        exact V_throw X hno rfl (List.mem_of_getElem? (i := 8) rfl) (by decide) (List.mem_of_getElem? (i := 3) rfl) (List.mem_of_getElem? (i := 4) rfl) (atm_X6_type_56) gb_X6_56 (List.mem_of_getElem? (i := 0) rfl) (gd_X6_56) dX6_type_63 dX6_type_66 dX6_type_67 dX6_type_69 dX6_type_72 (Nat.le_of_ble_eq_true rfl) (Nat.le_of_ble_eq_true rfl) (Nat.le_of_ble_eq_true rfl) (Nat.le_of_ble_eq_true rfl) (by decide) (by decide) (⟨Or.inr ⟨rfl, by omega, by omega⟩, rfl⟩)
    · skip
      rw [if_neg hw32] at hz9
      subst hz9
      refine V_if_ne X 48 ⟨by decide, by decide⟩ dX6_type_35 (by decide) (fun h => absurd h (by first | decide | omega)) (fun _ => ?_)
      exact V_throw X hno rfl (List.mem_of_getElem? (i := 7) rfl) (by decide) (List.mem_of_getElem? (i := 1) rfl) (List.mem_of_getElem? (i := 2) rfl) (atm_X6_type_71) gb_X6_71 (List.mem_of_getElem? (i := 1) rfl) (gd_X6_71) dX6_type_38 dX6_type_41 dX6_type_42 dX6_type_44 dX6_type_47 (Nat.le_of_ble_eq_true rfl) (Nat.le_of_ble_eq_true rfl) (Nat.le_of_ble_eq_true rfl) (Nat.le_of_ble_eq_true rfl) (by decide) (by decide) (⟨Or.inl ⟨rfl, by omega⟩, rfl⟩)
  · skip
    refine V_iload_n X 1 rfl dX6_type_6 rfl ?_
    refine V_bipush X (by decide) dX6_type_7 ?_
    refine V_icmp_eq X 18 ha ⟨by decide, by decide⟩ dX6_type_9 (by decide) (fun q7 => ?_) (fun q7 => ?_)
    · skip
      refine V_iconst X dX6_type_18 ?_
      refine V_goto X 23 dX6_type_19 (by decide) ?_
      refine V_istore_n X [(3, .int (iN (1))), (0, .ref (ga g (0))), (1, .int (iN (a))), (2, .int (iN (k)))] dX6_type_23 rfl (by decide) rfl ?_
      refine V_iload_n X 0 rfl dX6_type_24 rfl ?_
      refine V_if_eq X 38 ⟨by decide, by decide⟩ dX6_type_25 (by decide) (fun h => absurd h (by first | decide | omega)) (fun _ => ?_)
      refine V_iload_n X 3 rfl dX6_type_28 rfl ?_
      refine V_iconst X dX6_type_29 ?_
      refine V_bipush X (by decide) dX6_type_30 ?_
      refine V_callS_I X (na := 3) (m_X6_isWithin g l hl9 σ k 1 20 hk ⟨by decide, by decide⟩ ⟨by decide, by decide⟩) gX6_type_X6_isWithin rfl rfl rfl (by decide +kernel) ⟨Nat.le_of_ble_eq_true rfl, Nat.le_of_ble_eq_true rfl⟩ rfl rfl (Nat.le_of_ble_eq_true rfl) ⟨Nat.le_of_ble_eq_true rfl, Nat.le_of_ble_eq_true rfl⟩ dX6_type_32 (fun z8 u9 z8r hp10 => ?_)
      obtain ⟨hz9, hu11⟩ := hp10
      have hu11 := hu11.symm
      subst hu11
      rcases Classical.em (1 ≤ k ∧ k ≤ 20) with hw32 | hw32
      · skip
        rw [if_pos hw32] at hz9
        subst hz9
        refine V_if_ne X 48 ⟨by decide, by decide⟩ dX6_type_35 (by decide) (fun _ => ?_) (fun h => absurd h (by first | decide | omega))
        refine V_aload_n X 1 rfl dX6_type_48 rfl ?_
        refine V_get X (ci := 6) (0) (by decide) (rfl) (by decide) rfl (fun _ h => List.mem_cons_of_mem _ (List.mem_append_left _ (List.mem_append_left _ (List.mem_append_right _ h)))) 5 (by decide) (List.mem_of_getElem? (i := 5) rfl) rfl rfl dX6_type_49 ?_
        refine V_iload_n X 3 rfl dX6_type_52 rfl ?_
        refine V_iadd X dX6_type_53 ?_
        refine V_top (b := ((ty + k.toNat : Nat) : Int)) (by omega) ?_
        refine V_istore X [(4, .int (iN (((ty + k.toNat : Nat) : Int)))), (3, .int (iN (1))), (0, .ref (ga g (0))), (1, .int (iN (a))), (2, .int (iN (k)))] dX6_type_54 (by decide) rfl ?_
        refine V_iload X 0 rfl dX6_type_56 ?_
        refine V_bipush X (by decide) dX6_type_58 ?_
        refine V_icmp_le X 73 ⟨by omega, by omega⟩ ⟨by decide, by decide⟩ dX6_type_60 (by decide) (fun q12 => ?_) (fun q12 => ?_)
        · skip
          refine V_aload_n X 2 rfl dX6_type_73 rfl ?_
          refine V_get X (ci := 6) (0) (by decide) (rfl) (by decide) rfl (fun _ h => List.mem_cons_of_mem _ (List.mem_append_left _ (List.mem_append_left _ (List.mem_append_right _ h)))) 5 (by decide) (List.mem_of_getElem? (i := 5) rfl) rfl rfl dX6_type_74 ?_
          refine V_istore X [(5, .int (iN (σ.1 0 5))), (4, .int (iN (((ty + k.toNat : Nat) : Int)))), (3, .int (iN (1))), (0, .ref (ga g (0))), (1, .int (iN (a))), (2, .int (iN (k)))] dX6_type_77 (by decide) rfl ?_
          refine V_sub (lv' := [(0, .ref (ga g (0))), (1, .int (iN (a))), (2, .int (iN (k))), (3, .int (iN (1))), (4, .int (iN (((ty + k.toNat : Nat) : Int)))), (5, .int (iN (σ.1 0 5)))]) [3, 4, 5, 2, 1, 0] rfl ?_
          refine V_lv (congrArg (fun q : Int => ([(0, .ref (ga g (0))), (1, .int (iN (a))), (2, .int (iN (k))), (3, .int (iN (1))), (4, .int (iN (((ty + k.toNat : Nat) : Int)))), (5, .int (iN q))] : List (Nat × Value))) (show σ.1 0 5 = ((ty : Nat) : Int) from hty)) ?_
          refine V_up (N := (ty + k.toNat)) (fun (i : Nat) (u : St) (lw : List (Nat × Value)) => True ∧ [(0, .ref (ga g (0))), (1, .int (iN (a))), (2, .int (iN (k))), (3, .int (iN (1))), (4, .int (iN (((ty + k.toNat : Nat) : Int)))), (5, .int (iN (((i : Nat) : Int))))] = lw ∧ (u = tyS σ a ty i ∧ ty ≤ i)) (i0 := ty) (by omega) ⟨trivial, rfl, ⟨tyS_0.symm, Nat.le_refl _⟩⟩ ?_ ?_
          · skip
            rintro u1 _ ⟨-, rfl, ⟨hv, hti⟩⟩
            refine V_iload X 5 rfl dX6_type_79 ?_
            refine V_iload X 4 rfl dX6_type_81 ?_
            refine V_icmp_ge X 100 ⟨by omega, by omega⟩ ⟨by omega, by omega⟩ dX6_type_83 (by decide) (fun _ => ?_) (fun h => absurd h (by omega))
            refine V_aload_n X 0 rfl dX6_type_100 rfl ?_
            refine V_iload X 4 rfl dX6_type_101 ?_
            refine V_put X (ci := 6) (0) (by decide) (rfl) (by decide) rfl (fun _ h => List.mem_cons_of_mem _ (List.mem_append_left _ (List.mem_append_left _ (List.mem_append_right _ h)))) 5 (by decide) (List.mem_of_getElem? (i := 5) rfl) rfl tyX6 tyX6_ok nmX6 rfl rfl rfl rfl rfl (Nat.le_of_ble_eq_true rfl) dX6_type_103 ?_
            refine V_aload_n X 0 rfl dX6_type_106 rfl ?_
            refine V_get X (ci := 6) (0) (by decide) (rfl) (by decide) rfl (fun _ h => List.mem_cons_of_mem _ (List.mem_append_left _ (List.mem_append_left _ (List.mem_append_right _ h)))) 5 (by decide) (List.mem_of_getElem? (i := 5) rfl) rfl rfl dX6_type_107 ?_
            refine V_top (b := ((ty + k.toNat : Nat) : Int)) rd_s ?_
            exact V_iretX X hr rfl ⟨by omega, by omega⟩ (by exact ⟨by omega, by omega, rfl, by rw [hv]⟩) dX6_type_110 (by decide) (by decide)
          · skip
            rintro i u1 _ hiN ⟨-, rfl, ⟨hv, hti⟩⟩ kk
            refine V_iload X 5 rfl dX6_type_79 ?_
            refine V_iload X 4 rfl dX6_type_81 ?_
            refine V_icmp_ge X 100 ⟨by omega, by omega⟩ ⟨by omega, by omega⟩ dX6_type_83 (by decide) (fun h => absurd h (by omega)) (fun _ => ?_)
            refine V_aload_n X 0 rfl dX6_type_86 rfl ?_
            refine V_get X (ci := 6) (0) (by decide) (rfl) (by decide) rfl (fun _ h => List.mem_cons_of_mem _ (List.mem_append_left _ (List.mem_append_left _ (List.mem_append_right _ h)))) 4 (by decide) (List.mem_of_getElem? (i := 6) rfl) rfl rfl dX6_type_87 ?_
            refine V_iload X 5 rfl dX6_type_90 ?_
            refine V_iload_n X 1 rfl dX6_type_92 rfl ?_
            refine V_cast X (N := 60) (3) (by decide) (rfl) (rfl) (by decide) (i) (rfl) (by omega) (by omega) (by omega) dX6_type_93 ?_
            refine V_iinc X [(5, .int (iN (((i : Nat) : Int) + 1))), (0, .ref (ga g (0))), (1, .int (iN (a))), (2, .int (iN (k))), (3, .int (iN (1))), (4, .int (iN (((ty + k.toNat : Nat) : Int))))] 5 (((i : Nat) : Int) + 1) (rfl) rfl dX6_type_94 (by decide) rfl ?_
            refine V_goto X 79 dX6_type_97 (by decide) ?_
            refine V_sub (lv' := [(0, .ref (ga g (0))), (1, .int (iN (a))), (2, .int (iN (k))), (3, .int (iN (1))), (4, .int (iN (((ty + k.toNat : Nat) : Int)))), (5, .int (iN (((i : Nat) : Int) + 1)))]) [1, 2, 3, 4, 5, 0] rfl ?_
            refine V_lv (congrArg (fun q : Int => ([(0, .ref (ga g (0))), (1, .int (iN (a))), (2, .int (iN (k))), (3, .int (iN (1))), (4, .int (iN (((ty + k.toNat : Nat) : Int)))), (5, .int (iN q))] : List (Nat × Value))) (show ((i : Nat) : Int) + 1 = (((i + 1) : Nat) : Int) from by omega)) ?_
            exact kk _ _ ⟨trivial, rfl, ⟨by rw [hv]; exact tyS_s hti, by omega⟩⟩
        · skip
          exact V_throw X hno rfl (List.mem_of_getElem? (i := 8) rfl) (by decide) (List.mem_of_getElem? (i := 3) rfl) (List.mem_of_getElem? (i := 4) rfl) (atm_X6_type_56) gb_X6_56 (List.mem_of_getElem? (i := 0) rfl) (gd_X6_56) dX6_type_63 dX6_type_66 dX6_type_67 dX6_type_69 dX6_type_72 (Nat.le_of_ble_eq_true rfl) (Nat.le_of_ble_eq_true rfl) (Nat.le_of_ble_eq_true rfl) (Nat.le_of_ble_eq_true rfl) (by decide) (by decide) (⟨Or.inr ⟨rfl, by omega, by omega⟩, rfl⟩)
      · skip
        rw [if_neg hw32] at hz9
        subst hz9
        refine V_if_ne X 48 ⟨by decide, by decide⟩ dX6_type_35 (by decide) (fun h => absurd h (by first | decide | omega)) (fun _ => ?_)
        exact V_throw X hno rfl (List.mem_of_getElem? (i := 7) rfl) (by decide) (List.mem_of_getElem? (i := 1) rfl) (List.mem_of_getElem? (i := 2) rfl) (atm_X6_type_71) gb_X6_71 (List.mem_of_getElem? (i := 1) rfl) (gd_X6_71) dX6_type_38 dX6_type_41 dX6_type_42 dX6_type_44 dX6_type_47 (Nat.le_of_ble_eq_true rfl) (Nat.le_of_ble_eq_true rfl) (Nat.le_of_ble_eq_true rfl) (Nat.le_of_ble_eq_true rfl) (by decide) (by decide) (⟨Or.inl ⟨rfl, by omega⟩, rfl⟩)
    · skip
      refine V_iload_n X 1 rfl dX6_type_12 rfl ?_
      refine V_bipush X (by decide) dX6_type_13 ?_
      refine V_icmp_ne X 22 ha ⟨by decide, by decide⟩ dX6_type_15 (by decide) (fun q13 => ?_) (fun q13 => ?_)
      · skip
        refine V_iconst X dX6_type_22 ?_
        refine V_istore_n X [(3, .int (iN (0))), (0, .ref (ga g (0))), (1, .int (iN (a))), (2, .int (iN (k)))] dX6_type_23 rfl (by decide) rfl ?_
        refine V_iload_n X 0 rfl dX6_type_24 rfl ?_
        refine V_if_eq X 38 ⟨by decide, by decide⟩ dX6_type_25 (by decide) (fun _ => ?_) (fun h => absurd h (by first | decide | omega))
        exact V_throw X hno rfl (List.mem_of_getElem? (i := 7) rfl) (by decide) (List.mem_of_getElem? (i := 1) rfl) (List.mem_of_getElem? (i := 2) rfl) (atm_X6_type_71) gb_X6_71 (List.mem_of_getElem? (i := 1) rfl) (gd_X6_71) dX6_type_38 dX6_type_41 dX6_type_42 dX6_type_44 dX6_type_47 (Nat.le_of_ble_eq_true rfl) (Nat.le_of_ble_eq_true rfl) (Nat.le_of_ble_eq_true rfl) (Nat.le_of_ble_eq_true rfl) (by decide) (by decide) (⟨Or.inl ⟨rfl, by omega⟩, rfl⟩)
      · skip
        refine V_iconst X dX6_type_18 ?_
        refine V_goto X 23 dX6_type_19 (by decide) ?_
        refine V_istore_n X [(3, .int (iN (1))), (0, .ref (ga g (0))), (1, .int (iN (a))), (2, .int (iN (k)))] dX6_type_23 rfl (by decide) rfl ?_
        refine V_iload_n X 0 rfl dX6_type_24 rfl ?_
        refine V_if_eq X 38 ⟨by decide, by decide⟩ dX6_type_25 (by decide) (fun h => absurd h (by first | decide | omega)) (fun _ => ?_)
        refine V_iload_n X 3 rfl dX6_type_28 rfl ?_
        refine V_iconst X dX6_type_29 ?_
        refine V_bipush X (by decide) dX6_type_30 ?_
        refine V_callS_I X (na := 3) (m_X6_isWithin g l hl9 σ k 1 20 hk ⟨by decide, by decide⟩ ⟨by decide, by decide⟩) gX6_type_X6_isWithin rfl rfl rfl (by decide +kernel) ⟨Nat.le_of_ble_eq_true rfl, Nat.le_of_ble_eq_true rfl⟩ rfl rfl (Nat.le_of_ble_eq_true rfl) ⟨Nat.le_of_ble_eq_true rfl, Nat.le_of_ble_eq_true rfl⟩ dX6_type_32 (fun z14 u15 z14r hp16 => ?_)
        obtain ⟨hz9, hu17⟩ := hp16
        have hu17 := hu17.symm
        subst hu17
        rcases Classical.em (1 ≤ k ∧ k ≤ 20) with hw32 | hw32
        · skip
          rw [if_pos hw32] at hz9
          subst hz9
          refine V_if_ne X 48 ⟨by decide, by decide⟩ dX6_type_35 (by decide) (fun _ => ?_) (fun h => absurd h (by first | decide | omega))
          refine V_aload_n X 1 rfl dX6_type_48 rfl ?_
          refine V_get X (ci := 6) (0) (by decide) (rfl) (by decide) rfl (fun _ h => List.mem_cons_of_mem _ (List.mem_append_left _ (List.mem_append_left _ (List.mem_append_right _ h)))) 5 (by decide) (List.mem_of_getElem? (i := 5) rfl) rfl rfl dX6_type_49 ?_
          refine V_iload_n X 3 rfl dX6_type_52 rfl ?_
          refine V_iadd X dX6_type_53 ?_
          refine V_top (b := ((ty + k.toNat : Nat) : Int)) (by omega) ?_
          refine V_istore X [(4, .int (iN (((ty + k.toNat : Nat) : Int)))), (3, .int (iN (1))), (0, .ref (ga g (0))), (1, .int (iN (a))), (2, .int (iN (k)))] dX6_type_54 (by decide) rfl ?_
          refine V_iload X 0 rfl dX6_type_56 ?_
          refine V_bipush X (by decide) dX6_type_58 ?_
          refine V_icmp_le X 73 ⟨by omega, by omega⟩ ⟨by decide, by decide⟩ dX6_type_60 (by decide) (fun q18 => ?_) (fun q18 => ?_)
          · skip
            refine V_aload_n X 2 rfl dX6_type_73 rfl ?_
            refine V_get X (ci := 6) (0) (by decide) (rfl) (by decide) rfl (fun _ h => List.mem_cons_of_mem _ (List.mem_append_left _ (List.mem_append_left _ (List.mem_append_right _ h)))) 5 (by decide) (List.mem_of_getElem? (i := 5) rfl) rfl rfl dX6_type_74 ?_
            refine V_istore X [(5, .int (iN (σ.1 0 5))), (4, .int (iN (((ty + k.toNat : Nat) : Int)))), (3, .int (iN (1))), (0, .ref (ga g (0))), (1, .int (iN (a))), (2, .int (iN (k)))] dX6_type_77 (by decide) rfl ?_
            refine V_sub (lv' := [(0, .ref (ga g (0))), (1, .int (iN (a))), (2, .int (iN (k))), (3, .int (iN (1))), (4, .int (iN (((ty + k.toNat : Nat) : Int)))), (5, .int (iN (σ.1 0 5)))]) [3, 4, 5, 2, 1, 0] rfl ?_
            refine V_lv (congrArg (fun q : Int => ([(0, .ref (ga g (0))), (1, .int (iN (a))), (2, .int (iN (k))), (3, .int (iN (1))), (4, .int (iN (((ty + k.toNat : Nat) : Int)))), (5, .int (iN q))] : List (Nat × Value))) (show σ.1 0 5 = ((ty : Nat) : Int) from hty)) ?_
            refine V_up (N := (ty + k.toNat)) (fun (i : Nat) (u : St) (lw : List (Nat × Value)) => True ∧ [(0, .ref (ga g (0))), (1, .int (iN (a))), (2, .int (iN (k))), (3, .int (iN (1))), (4, .int (iN (((ty + k.toNat : Nat) : Int)))), (5, .int (iN (((i : Nat) : Int))))] = lw ∧ (u = tyS σ a ty i ∧ ty ≤ i)) (i0 := ty) (by omega) ⟨trivial, rfl, ⟨tyS_0.symm, Nat.le_refl _⟩⟩ ?_ ?_
            · skip
              rintro u1 _ ⟨-, rfl, ⟨hv, hti⟩⟩
              refine V_iload X 5 rfl dX6_type_79 ?_
              refine V_iload X 4 rfl dX6_type_81 ?_
              refine V_icmp_ge X 100 ⟨by omega, by omega⟩ ⟨by omega, by omega⟩ dX6_type_83 (by decide) (fun _ => ?_) (fun h => absurd h (by omega))
              refine V_aload_n X 0 rfl dX6_type_100 rfl ?_
              refine V_iload X 4 rfl dX6_type_101 ?_
              refine V_put X (ci := 6) (0) (by decide) (rfl) (by decide) rfl (fun _ h => List.mem_cons_of_mem _ (List.mem_append_left _ (List.mem_append_left _ (List.mem_append_right _ h)))) 5 (by decide) (List.mem_of_getElem? (i := 5) rfl) rfl tyX6 tyX6_ok nmX6 rfl rfl rfl rfl rfl (Nat.le_of_ble_eq_true rfl) dX6_type_103 ?_
              refine V_aload_n X 0 rfl dX6_type_106 rfl ?_
              refine V_get X (ci := 6) (0) (by decide) (rfl) (by decide) rfl (fun _ h => List.mem_cons_of_mem _ (List.mem_append_left _ (List.mem_append_left _ (List.mem_append_right _ h)))) 5 (by decide) (List.mem_of_getElem? (i := 5) rfl) rfl rfl dX6_type_107 ?_
              refine V_top (b := ((ty + k.toNat : Nat) : Int)) rd_s ?_
              exact V_iretX X hr rfl ⟨by omega, by omega⟩ (by exact ⟨by omega, by omega, rfl, by rw [hv]⟩) dX6_type_110 (by decide) (by decide)
            · skip
              rintro i u1 _ hiN ⟨-, rfl, ⟨hv, hti⟩⟩ kk
              refine V_iload X 5 rfl dX6_type_79 ?_
              refine V_iload X 4 rfl dX6_type_81 ?_
              refine V_icmp_ge X 100 ⟨by omega, by omega⟩ ⟨by omega, by omega⟩ dX6_type_83 (by decide) (fun h => absurd h (by omega)) (fun _ => ?_)
              refine V_aload_n X 0 rfl dX6_type_86 rfl ?_
              refine V_get X (ci := 6) (0) (by decide) (rfl) (by decide) rfl (fun _ h => List.mem_cons_of_mem _ (List.mem_append_left _ (List.mem_append_left _ (List.mem_append_right _ h)))) 4 (by decide) (List.mem_of_getElem? (i := 6) rfl) rfl rfl dX6_type_87 ?_
              refine V_iload X 5 rfl dX6_type_90 ?_
              refine V_iload_n X 1 rfl dX6_type_92 rfl ?_
              refine V_cast X (N := 60) (3) (by decide) (rfl) (rfl) (by decide) (i) (rfl) (by omega) (by omega) (by omega) dX6_type_93 ?_
              refine V_iinc X [(5, .int (iN (((i : Nat) : Int) + 1))), (0, .ref (ga g (0))), (1, .int (iN (a))), (2, .int (iN (k))), (3, .int (iN (1))), (4, .int (iN (((ty + k.toNat : Nat) : Int))))] 5 (((i : Nat) : Int) + 1) (rfl) rfl dX6_type_94 (by decide) rfl ?_
              refine V_goto X 79 dX6_type_97 (by decide) ?_
              refine V_sub (lv' := [(0, .ref (ga g (0))), (1, .int (iN (a))), (2, .int (iN (k))), (3, .int (iN (1))), (4, .int (iN (((ty + k.toNat : Nat) : Int)))), (5, .int (iN (((i : Nat) : Int) + 1)))]) [1, 2, 3, 4, 5, 0] rfl ?_
              refine V_lv (congrArg (fun q : Int => ([(0, .ref (ga g (0))), (1, .int (iN (a))), (2, .int (iN (k))), (3, .int (iN (1))), (4, .int (iN (((ty + k.toNat : Nat) : Int)))), (5, .int (iN q))] : List (Nat × Value))) (show ((i : Nat) : Int) + 1 = (((i + 1) : Nat) : Int) from by omega)) ?_
              exact kk _ _ ⟨trivial, rfl, ⟨by rw [hv]; exact tyS_s hti, by omega⟩⟩
          · skip
            exact V_throw X hno rfl (List.mem_of_getElem? (i := 8) rfl) (by decide) (List.mem_of_getElem? (i := 3) rfl) (List.mem_of_getElem? (i := 4) rfl) (atm_X6_type_56) gb_X6_56 (List.mem_of_getElem? (i := 0) rfl) (gd_X6_56) dX6_type_63 dX6_type_66 dX6_type_67 dX6_type_69 dX6_type_72 (Nat.le_of_ble_eq_true rfl) (Nat.le_of_ble_eq_true rfl) (Nat.le_of_ble_eq_true rfl) (Nat.le_of_ble_eq_true rfl) (by decide) (by decide) (⟨Or.inr ⟨rfl, by omega, by omega⟩, rfl⟩)
        · skip
          rw [if_neg hw32] at hz9
          subst hz9
          refine V_if_ne X 48 ⟨by decide, by decide⟩ dX6_type_35 (by decide) (fun h => absurd h (by first | decide | omega)) (fun _ => ?_)
          exact V_throw X hno rfl (List.mem_of_getElem? (i := 7) rfl) (by decide) (List.mem_of_getElem? (i := 1) rfl) (List.mem_of_getElem? (i := 2) rfl) (atm_X6_type_71) gb_X6_71 (List.mem_of_getElem? (i := 1) rfl) (gd_X6_71) dX6_type_38 dX6_type_41 dX6_type_42 dX6_type_44 dX6_type_47 (Nat.le_of_ble_eq_true rfl) (Nat.le_of_ble_eq_true rfl) (Nat.le_of_ble_eq_true rfl) (Nat.le_of_ble_eq_true rfl) (by decide) (by decide) (⟨Or.inl ⟨rfl, by omega⟩, rfl⟩)
