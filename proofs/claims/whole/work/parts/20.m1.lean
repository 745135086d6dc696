/-! ===== plain words of the class ===== -/
/-- every number of the world is an int -/
def RG (σ : St) : Prop := ∀ a b, R32 (σ.1 a b)
theorem RG.sw {σ : St} (h : RG σ) (n k : Nat) {v : Int} (hv : R32 v) : RG (sw σ n k v) := by
  intro a b
  rw [sw_get]
  split
  · exact hv
  · exact h a b
def spdF (top pull s i : Int) : Int := if i = 43 then (if s + pull < top then s + pull else top) else if i = 45 then (if 0 < s - pull then s - pull else 0) else s
def bestF (sel : Nat → Bool) (cnt : Nat → Int) : Nat → Int
  | 0 => -1
  | l + 1 => if sel l = true ∧ (bestF sel cnt l = -1 ∨ cnt l < cnt (bestF sel cnt l).toNat) then (l : Int) else bestF sel cnt l
def sumF (f : Nat → Int) : Nat → Int
  | 0 => 0
  | n + 1 => sumF f n + f n
def limG (ends limits : Nat → Int) (p : Int) : Nat → Nat → Int
  | _, 0 => 0
  | i, d + 1 => if p < ends i then limits i else limG ends limits p (i + 1) d

set_option maxRecDepth 100000 in
set_option maxHeartbeats 4000000 in
theorem m_X6_isWithin (g : Geo) (l : Launch) (hl9 : l.stackTraces = false) (σ : St) (a b c : Int) (ha : R32 a) (hb : R32 b) (hc : R32 c) : Met l yX6_isWithin wsX6_isWithin ({ frames := 0, cells := 0, slots := 0, locals := 0 }) (va_Pc [.int (iN (a)), .int (iN (b)), .int (iN (c))] (World g σ)) (QI g (fun z u => z = (if b ≤ a ∧ a ≤ c then 1 else 0) ∧ u = σ)) 0 0 (gA g) := by
  refine V_met hl9 (by decide) rfl (Nat.le_of_ble_eq_true rfl) ?_
  intro p9 e9 s9 m9 b9 t9 c9 X hr _
  refine V_lv (lv' := [(0, .int (iN (a))), (1, .int (iN (b))), (2, .int (iN (c)))]) rfl ?_
  refine V_iload_n X 0 rfl dX6_isWithin_0 rfl ?_
  refine V_iload_n X 1 rfl dX6_isWithin_1 rfl ?_
  refine V_icmp_lt X 14 ha hb dX6_isWithin_2 (by decide) (fun q1 => ?_) (fun q1 => ?_)
  · skip
    refine V_iconst X dX6_isWithin_14 ?_
    exact V_iret X hr (iN_bool (Or.inl rfl)).1 ⟨by decide, by decide⟩ (by exact ⟨by first | rw [if_pos (by omega)] | rw [if_neg (by omega)], rfl⟩) dX6_isWithin_15 (by decide) (by decide)
  · skip
    refine V_iload_n X 0 rfl dX6_isWithin_5 rfl ?_
    refine V_iload_n X 2 rfl dX6_isWithin_6 rfl ?_
    refine V_icmp_gt X 14 ha hc dX6_isWithin_7 (by decide) (fun q2 => ?_) (fun q2 => ?_)
    · skip
      refine V_iconst X dX6_isWithin_14 ?_
      exact V_iret X hr (iN_bool (Or.inl rfl)).1 ⟨by decide, by decide⟩ (by exact ⟨by first | rw [if_pos (by omega)] | rw [if_neg (by omega)], rfl⟩) dX6_isWithin_15 (by decide) (by decide)
    · skip
      refine V_iconst X dX6_isWithin_10 ?_
      refine V_goto X 15 dX6_isWithin_11 (by decide) ?_
      exact V_iret X hr (iN_bool (Or.inr rfl)).1 ⟨by decide, by decide⟩ (by exact ⟨by first | rw [if_pos (by omega)] | rw [if_neg (by omega)], rfl⟩) dX6_isWithin_15 (by decide) (by decide)
theorem atm_X6_track_56 : ∀ w ∈ vx_atS RX6 56 "java/lang/IllegalStateException" ["java/lang/RuntimeException", "java/lang/Exception"], goodWord w = true → w ∈ wsX6_track := fun w h0 hg0 => by
  have h := List.mem_filter.mpr ⟨h0, hg0⟩
  exact List.mem_cons_of_mem _ (List.mem_append_right _ h)
set_option maxRecDepth 100000 in
set_option maxHeartbeats 4000000 in
theorem m_X6_track (g : Geo) (l : Launch) (hl9 : l.stackTraces = false) (σ : St) (hR : RG σ) (h0 : 0 ≤ σ.1 0 1) (h1 : σ.1 0 1 ≤ 4) : vx_Met l yX6_track wsX6_track ({ frames := 6, cells := 1, slots := 6, locals := 90 }) (va_Pc [.ref (ga g (0))] (World g σ)) (QI g (fun z u => σ.1 0 1 < 4 ∧ z = σ.1 0 1 ∧ u = sw σ 0 1 (σ.1 0 1 + 1))) (XT g (fun E u => E = "java/lang/IllegalStateException" ∧ ¬ σ.1 0 1 < 4 ∧ u = σ)) 1 6 (gA g) := by
  refine V_metX hl9 (by decide) rfl (Nat.le_of_ble_eq_true rfl) ?_
  intro p9 e9 s9 m9 b9 t9 c9 X hno hr
  refine V_lv (lv' := [(0, .ref (ga g (0)))]) rfl ?_
  refine V_aload_n X 0 rfl dX6_track_0 rfl ?_
  refine V_get X (ci := 6) (0) (by decide) (rfl) (by decide) rfl (fun _ h => List.mem_cons_of_mem _ (List.mem_append_left _ (List.mem_append_right _ h))) 1 (by decide) (List.mem_of_getElem? (i := 3) rfl) rfl rfl dX6_track_1 ?_
  refine V_iconst X dX6_track_4 ?_
  refine V_icmp_lt X 18 (hR 0 1) ⟨by decide, by decide⟩ dX6_track_5 (by decide) (fun q1 => ?_) (fun q1 => ?_)
  · skip
    refine V_aload_n X 0 rfl dX6_track_18 rfl ?_
    refine V_dup X rfl dX6_track_19 ?_
    refine V_get X (ci := 6) (0) (by decide) (rfl) (by decide) rfl (fun _ h => List.mem_cons_of_mem _ (List.mem_append_left _ (List.mem_append_right _ h))) 1 (by decide) (List.mem_of_getElem? (i := 3) rfl) rfl rfl dX6_track_20 ?_
    refine V_iconst X dX6_track_23 ?_
    refine V_iadd X dX6_track_24 ?_
    refine V_put X (ci := 6) (0) (by decide) (rfl) (by decide) rfl (fun _ h => List.mem_cons_of_mem _ (List.mem_append_left _ (List.mem_append_right _ h))) 1 (by decide) (List.mem_of_getElem? (i := 3) rfl) rfl tyX6 tyX6_ok nmX6 rfl rfl rfl rfl rfl (Nat.le_of_ble_eq_true rfl) dX6_track_25 ?_
    refine V_aload_n X 0 rfl dX6_track_28 rfl ?_
    refine V_get X (ci := 6) (0) (by decide) (rfl) (by decide) rfl (fun _ h => List.mem_cons_of_mem _ (List.mem_append_left _ (List.mem_append_right _ h))) 1 (by decide) (List.mem_of_getElem? (i := 3) rfl) rfl rfl dX6_track_29 ?_
    refine V_top (b := (σ.1 0 1) + 1) rd_s ?_
    refine V_iconst X dX6_track_32 ?_
    refine V_isub X dX6_track_33 ?_
    exact V_iretX X hr rfl ⟨by omega, by omega⟩ (by exact ⟨by omega, by omega, rfl⟩) dX6_track_34 (by decide) (by decide)
  · skip
    exact V_throw X hno rfl (List.mem_of_getElem? (i := 0) rfl) (by decide) (List.mem_of_getElem? (i := 1) rfl) (List.mem_of_getElem? (i := 2) rfl) (atm_X6_track_56) gb_X6_56 (List.mem_of_getElem? (i := 0) rfl) (gd_X6_56) dX6_track_8 dX6_track_11 dX6_track_12 dX6_track_14 dX6_track_17 (Nat.le_of_ble_eq_true rfl) (Nat.le_of_ble_eq_true rfl) (Nat.le_of_ble_eq_true rfl) (Nat.le_of_ble_eq_true rfl) (by decide) (by decide) (⟨rfl, by omega, rfl⟩)
set_option maxRecDepth 100000 in
set_option maxHeartbeats 4000000 in
theorem m_X6_wipe (g : Geo) (l : Launch) (hl9 : l.stackTraces = false) (σ : St) (hR : RG σ) : Met l yX6_wipe wsX6_wipe ({ frames := 0, cells := 0, slots := 0, locals := 0 }) (va_Pc [.ref (ga g (0))] (World g σ)) (QI g (fun z u => z = σ.1 0 5 ∧ u = sw σ 0 5 0)) 0 0 (gA g) := by
  refine V_met hl9 (by decide) rfl (Nat.le_of_ble_eq_true rfl) ?_
  intro p9 e9 s9 m9 b9 t9 c9 X hr _
  refine V_lv (lv' := [(0, .ref (ga g (0)))]) rfl ?_
  refine V_aload_n X 0 rfl dX6_wipe_0 rfl ?_
  refine V_get X (ci := 6) (0) (by decide) (rfl) (by decide) rfl (fun _ h => List.mem_cons_of_mem _ (List.mem_append_right _ h)) 5 (by decide) (List.mem_of_getElem? (i := 1) rfl) rfl rfl dX6_wipe_1 ?_
  refine V_istore_n X [(1, .int (iN (σ.1 0 5))), (0, .ref (ga g (0)))] dX6_wipe_4 rfl (by decide) rfl ?_
  refine V_aload_n X 1 rfl dX6_wipe_5 rfl ?_
  refine V_iconst X dX6_wipe_6 ?_
  refine V_put X (ci := 6) (0) (by decide) (rfl) (by decide) rfl (fun _ h => List.mem_cons_of_mem _ (List.mem_append_right _ h)) 5 (by decide) (List.mem_of_getElem? (i := 1) rfl) rfl tyX6 tyX6_ok nmX6 rfl rfl rfl rfl rfl (Nat.le_of_ble_eq_true rfl) dX6_wipe_7 ?_
  refine V_iload_n X 0 rfl dX6_wipe_10 rfl ?_
  exact V_iret X hr rfl (hR 0 5) (by exact ⟨rfl, rfl⟩) dX6_wipe_11 (by decide) (by decide)
set_option maxRecDepth 100000 in
set_option maxHeartbeats 4000000 in
theorem m_X6_laps (g : Geo) (l : Launch) (hl9 : l.stackTraces = false) (σ : St) (hR : RG σ) : Met l yX6_laps wsX6_laps ({ frames := 0, cells := 0, slots := 0, locals := 0 }) (va_Pc [.ref (ga g (0))] (World g σ)) (QI g (fun z u => z = σ.1 5 1 ∧ u = σ)) 0 0 (gA g) := by
  refine V_met hl9 (by decide) rfl (Nat.le_of_ble_eq_true rfl) ?_
  intro p9 e9 s9 m9 b9 t9 c9 X hr _
  refine V_lv (lv' := [(0, .ref (ga g (0)))]) rfl ?_
  refine V_aload_n X 0 rfl dX6_laps_0 rfl ?_
  refine V_get X (ci := 6) (0) (by decide) (rfl) (by decide) rfl (fun _ h => List.mem_cons_of_mem _ (List.mem_append_left _ (List.mem_append_right _ h))) 7 (by decide) (List.mem_of_getElem? (i := 1) rfl) rfl rfl dX6_laps_1 ?_
  refine V_get X (ci := 0) (5) (by decide) (rfl) (by decide) rfl (fun _ h => List.mem_cons_of_mem _ (List.mem_append_right _ h)) 1 (by decide) (List.mem_of_getElem? (i := 2) rfl) rfl rfl dX6_laps_4 ?_
  exact V_iret X hr rfl (hR 5 1) (by exact ⟨rfl, rfl⟩) dX6_laps_7 (by decide) (by decide)
theorem atm_X6_trackNumbered_293 : ∀ w ∈ vx_atS RX6 293 "java/lang/IndexOutOfBoundsException" ["java/lang/RuntimeException", "java/lang/Exception"], goodWord w = true → w ∈ wsX6_trackNumbered := fun w h0 hg0 => by
  have h := List.mem_filter.mpr ⟨h0, hg0⟩
  exact List.mem_cons_of_mem _ (List.mem_append_right _ h)
set_option maxRecDepth 100000 in
set_option maxHeartbeats 4000000 in
theorem m_X6_trackNumbered (g : Geo) (l : Launch) (hl9 : l.stackTraces = false) (σ : St) (hR : RG σ) (a : Int) (ha : R32 a) (h1 : σ.1 0 1 ≤ 4) : vx_Met l yX6_trackNumbered wsX6_trackNumbered ({ frames := 6, cells := 1, slots := 6, locals := 90 }) (va_Pc [.ref (ga g (0)), .int (iN (a))] (World g σ)) (QR g (fun b u => 0 ≤ a ∧ a < σ.1 0 1 ∧ b = 73 + 3 * a.toNat ∧ u = σ)) (XT g (fun E u => E = "java/lang/IndexOutOfBoundsException" ∧ ¬ (0 ≤ a ∧ a < σ.1 0 1) ∧ u = σ)) 1 6 (gA g) := by
  refine V_metX hl9 (by decide) rfl (Nat.le_of_ble_eq_true rfl) ?_
  intro p9 e9 s9 m9 b9 t9 c9 X hno hr
  refine V_lv (lv' := [(0, .ref (ga g (0))), (1, .int (iN (a)))]) rfl ?_
  refine V_iload_n X 1 rfl dX6_trackNumbered_0 rfl ?_
  refine V_if_lt X 12 ha dX6_trackNumbered_1 (by decide) (fun q1 => ?_) (fun q1 => ?_)
  · skip
    exact V_throwW X hno rfl (List.mem_of_getElem? (i := 29) rfl) (by decide) (List.mem_of_getElem? (i := 1) rfl) (List.mem_of_getElem? (i := 2) rfl) (atm_X6_trackNumbered_293) gb_X6_293 (List.mem_of_getElem? (i := 2) rfl) (gd_X6_293) dX6_trackNumbered_12 dX6_trackNumbered_15 dX6_trackNumbered_16 dX6_trackNumbered_19 dX6_trackNumbered_22 (Nat.le_of_ble_eq_true rfl) (Nat.le_of_ble_eq_true rfl) (Nat.le_of_ble_eq_true rfl) (Nat.le_of_ble_eq_true rfl) (by decide) (by decide) (⟨rfl, by omega, rfl⟩)
  · skip
    refine V_iload_n X 1 rfl dX6_trackNumbered_4 rfl ?_
    refine V_aload_n X 0 rfl dX6_trackNumbered_5 rfl ?_
    refine V_get X (ci := 6) (0) (by decide) (rfl) (by decide) rfl (fun _ h => List.mem_cons_of_mem _ (List.mem_append_left _ (List.mem_append_right _ h))) 1 (by decide) (List.mem_of_getElem? (i := 3) rfl) rfl rfl dX6_trackNumbered_6 ?_
    refine V_icmp_lt X 23 ha (hR 0 1) dX6_trackNumbered_9 (by decide) (fun q2 => ?_) (fun q2 => ?_)
    · skip
      refine V_aload_n X 0 rfl dX6_trackNumbered_23 rfl ?_
      refine V_get X (ci := 6) (0) (by decide) (rfl) (by decide) rfl (fun _ h => List.mem_cons_of_mem _ (List.mem_append_left _ (List.mem_append_right _ h))) 0 (by decide) (List.mem_of_getElem? (i := 4) rfl) rfl rfl dX6_trackNumbered_24 ?_
      refine V_iload_n X 1 rfl dX6_trackNumbered_27 rfl ?_
      refine V_aald14 X (1) (by decide) (rfl) (a.toNat) (by omega) (by omega) dX6_trackNumbered_28 ?_
      exact V_aretX X hr (by exact ⟨by omega, by omega, rfl, rfl⟩) dX6_trackNumbered_29 (by decide) (by decide)
    · skip
      exact V_throwW X hno rfl (List.mem_of_getElem? (i := 29) rfl) (by decide) (List.mem_of_getElem? (i := 1) rfl) (List.mem_of_getElem? (i := 2) rfl) (atm_X6_trackNumbered_293) gb_X6_293 (List.mem_of_getElem? (i := 2) rfl) (gd_X6_293) dX6_trackNumbered_12 dX6_trackNumbered_15 dX6_trackNumbered_16 dX6_trackNumbered_19 dX6_trackNumbered_22 (Nat.le_of_ble_eq_true rfl) (Nat.le_of_ble_eq_true rfl) (Nat.le_of_ble_eq_true rfl) (Nat.le_of_ble_eq_true rfl) (by decide) (by decide) (⟨rfl, by omega, rfl⟩)
theorem atm_X6_carNumbered_293 : ∀ w ∈ vx_atS RX6 293 "java/lang/IndexOutOfBoundsException" ["java/lang/RuntimeException", "java/lang/Exception"], goodWord w = true → w ∈ wsX6_carNumbered := fun w h0 hg0 => by
  have h := List.mem_filter.mpr ⟨h0, hg0⟩
  exact List.mem_cons_of_mem _ (List.mem_append_right _ h)
set_option maxRecDepth 100000 in
set_option maxHeartbeats 4000000 in
theorem m_X6_carNumbered (g : Geo) (l : Launch) (hl9 : l.stackTraces = false) (σ : St) (hR : RG σ) (a : Int) (ha : R32 a) (h1 : σ.1 0 3 ≤ 4) : vx_Met l yX6_carNumbered wsX6_carNumbered ({ frames := 6, cells := 1, slots := 6, locals := 90 }) (va_Pc [.ref (ga g (0)), .int (iN (a))] (World g σ)) (QR g (fun b u => 0 ≤ a ∧ a < σ.1 0 3 ∧ b = 85 + a.toNat ∧ u = σ)) (XT g (fun E u => E = "java/lang/IndexOutOfBoundsException" ∧ ¬ (0 ≤ a ∧ a < σ.1 0 3) ∧ u = σ)) 1 6 (gA g) := by
  refine V_metX hl9 (by decide) rfl (Nat.le_of_ble_eq_true rfl) ?_
  intro p9 e9 s9 m9 b9 t9 c9 X hno hr
  refine V_lv (lv' := [(0, .ref (ga g (0))), (1, .int (iN (a)))]) rfl ?_
  refine V_iload_n X 1 rfl dX6_carNumbered_0 rfl ?_
  refine V_if_lt X 12 ha dX6_carNumbered_1 (by decide) (fun q1 => ?_) (fun q1 => ?_)
  · skip
    exact V_throwW X hno rfl (List.mem_of_getElem? (i := 30) rfl) (by decide) (List.mem_of_getElem? (i := 1) rfl) (List.mem_of_getElem? (i := 2) rfl) (atm_X6_carNumbered_293) gb_X6_293 (List.mem_of_getElem? (i := 2) rfl) (gd_X6_293) dX6_carNumbered_12 dX6_carNumbered_15 dX6_carNumbered_16 dX6_carNumbered_19 dX6_carNumbered_22 (Nat.le_of_ble_eq_true rfl) (Nat.le_of_ble_eq_true rfl) (Nat.le_of_ble_eq_true rfl) (Nat.le_of_ble_eq_true rfl) (by decide) (by decide) (⟨rfl, by omega, rfl⟩)
  · skip
    refine V_iload_n X 1 rfl dX6_carNumbered_4 rfl ?_
    refine V_aload_n X 0 rfl dX6_carNumbered_5 rfl ?_
    refine V_get X (ci := 6) (0) (by decide) (rfl) (by decide) rfl (fun _ h => List.mem_cons_of_mem _ (List.mem_append_left _ (List.mem_append_right _ h))) 3 (by decide) (List.mem_of_getElem? (i := 3) rfl) rfl rfl dX6_carNumbered_6 ?_
    refine V_icmp_lt X 23 ha (hR 0 3) dX6_carNumbered_9 (by decide) (fun q2 => ?_) (fun q2 => ?_)
    · skip
      refine V_aload_n X 0 rfl dX6_carNumbered_23 rfl ?_
      refine V_get X (ci := 6) (0) (by decide) (rfl) (by decide) rfl (fun _ h => List.mem_cons_of_mem _ (List.mem_append_left _ (List.mem_append_right _ h))) 2 (by decide) (List.mem_of_getElem? (i := 4) rfl) rfl rfl dX6_carNumbered_24 ?_
      refine V_iload_n X 1 rfl dX6_carNumbered_27 rfl ?_
      refine V_aald15 X (2) (by decide) (rfl) (a.toNat) (by omega) (by omega) dX6_carNumbered_28 ?_
      exact V_aretX X hr (by exact ⟨by omega, by omega, rfl, rfl⟩) dX6_carNumbered_29 (by decide) (by decide)
    · skip
      exact V_throwW X hno rfl (List.mem_of_getElem? (i := 30) rfl) (by decide) (List.mem_of_getElem? (i := 1) rfl) (List.mem_of_getElem? (i := 2) rfl) (atm_X6_carNumbered_293) gb_X6_293 (List.mem_of_getElem? (i := 2) rfl) (gd_X6_293) dX6_carNumbered_12 dX6_carNumbered_15 dX6_carNumbered_16 dX6_carNumbered_19 dX6_carNumbered_22 (Nat.le_of_ble_eq_true rfl) (Nat.le_of_ble_eq_true rfl) (Nat.le_of_ble_eq_true rfl) (Nat.le_of_ble_eq_true rfl) (by decide) (by decide) (⟨rfl, by omega, rfl⟩)
set_option maxRecDepth 100000 in
set_option maxHeartbeats 4000000 in
theorem m_X6_lengthOf (g : Geo) (l : Launch) (hl9 : l.stackTraces = false) (σ : St) (hR : RG σ) (a : Int) (ha : R32 a) (hT : σ.1 0 1 ≤ 4) : vx_Met l yX6_lengthOf wsX6_lengthOf ({ frames := 7, cells := 1, slots := 6, locals := 111 }) (va_Pc [.ref (ga g (0)), .int (iN (a))] (World g σ)) (QI g (fun z u => 0 ≤ a ∧ a < σ.1 0 1 ∧ z = σ.1 (73 + 3 * a.toNat) 3 ∧ u = σ)) (XT g (fun E u => E = "java/lang/IndexOutOfBoundsException" ∧ ¬ (0 ≤ a ∧ a < σ.1 0 1) ∧ u = σ)) 1 6 (gA g) := by
  refine V_metX hl9 (by decide) rfl (Nat.le_of_ble_eq_true rfl) ?_
  intro p9 e9 s9 m9 b9 t9 c9 X hno hr
  refine V_lv (lv' := [(0, .ref (ga g (0))), (1, .int (iN (a)))]) rfl ?_
  refine V_aload_n X 0 rfl dX6_lengthOf_0 rfl ?_
  refine V_iload_n X 1 rfl dX6_lengthOf_1 rfl ?_
  refine V_callV_Rx X (na := 1) (ci := 6) (b0 := 0) (by decide) (rfl) (by decide) rfl (m_X6_trackNumbered g l hl9 σ hR a ha hT) gX6_lengthOf_X6_trackNumbered rfl rfl rfl (by decide +kernel) ⟨Nat.le_of_ble_eq_true rfl, Nat.le_of_ble_eq_true rfl⟩ rfl rfl (Nat.le_of_ble_eq_true rfl) ⟨Nat.le_of_ble_eq_true rfl, Nat.le_of_ble_eq_true rfl⟩ dX6_lengthOf_2 (fun E u hp => ?_) (fun z1 u2 hp3 => ?_)
  · skip
    exact VX_out X hno (hp) (by decide) (by decide)
  · skip
    obtain ⟨h1, h2, rfl, rfl⟩ := hp3
    refine V_get X (ci := 5) (73 + 3 * a.toNat) (by omega) (kd_tr (by omega)) (by decide) rfl (fun _ h => List.mem_cons_of_mem _ (List.mem_append_left _ (List.mem_append_left _ (List.mem_append_right _ h)))) 3 (by decide) (List.mem_of_getElem? (i := 1) rfl) rfl rfl dX6_lengthOf_5 ?_
    exact V_iretX X hr rfl (hR (73 + 3 * a.toNat) (3)) (by exact ⟨h1, h2, rfl, rfl⟩) dX6_lengthOf_8 (by decide) (by decide)
set_option maxRecDepth 100000 in
set_option maxHeartbeats 4000000 in
theorem m_X1_speedAfter (g : Geo) (l : Launch) (hl9 : l.stackTraces = false) (σ : St) (hR : RG σ) (c : Nat) (hc : c < 4) (s0 i : Int) (hi : R32 i) (h1 : 0 ≤ s0) (h2 : s0 ≤ 1000) (h3 : 0 ≤ σ.1 (85 + c) 1) (h4 : σ.1 (85 + c) 1 ≤ 1000) (h5 : 0 ≤ σ.1 (85 + c) 0) (h6 : σ.1 (85 + c) 0 ≤ 1000) : Met l yX1_speedAfter wsX1_speedAfter ({ frames := 1, cells := 0, slots := 0, locals := 20 }) (va_Pc [.ref (ga g (85 + c)), .int (iN (s0)), .int (iN (i))] (World g σ)) (QI g (fun z u => z = spdF (σ.1 (85 + c) 0) (σ.1 (85 + c) 1) s0 i ∧ u = σ)) 0 0 (gA g) := by
  refine V_met hl9 (by decide) rfl (Nat.le_of_ble_eq_true rfl) ?_
  intro p9 e9 s9 m9 b9 t9 c9 X hr _
  refine V_lv (lv' := [(0, .ref (ga g (85 + c))), (1, .int (iN (s0))), (2, .int (iN (i)))]) rfl ?_
  refine V_iload_n X 2 rfl dX1_speedAfter_0 rfl ?_
  refine V_bipush X (by decide) dX1_speedAfter_1 ?_
  refine V_icmp_ne X 20 hi ⟨by decide, by decide⟩ dX1_speedAfter_3 (by decide) (fun q1 => ?_) (fun q1 => ?_)
  · skip
    refine V_iload_n X 2 rfl dX1_speedAfter_20 rfl ?_
    refine V_bipush X (by decide) dX1_speedAfter_21 ?_
    refine V_icmp_ne X 37 hi ⟨by decide, by decide⟩ dX1_speedAfter_23 (by decide) (fun q2 => ?_) (fun q2 => ?_)
    · skip
      refine V_iload_n X 1 rfl dX1_speedAfter_37 rfl ?_
      exact V_iret X hr rfl ⟨by omega, by omega⟩ (by exact ⟨by unfold spdF; simp_all, rfl⟩) dX1_speedAfter_38 (by decide) (by decide)
    · skip
      refine V_iconst X dX1_speedAfter_26 ?_
      refine V_iload_n X 1 rfl dX1_speedAfter_27 rfl ?_
      refine V_aload_n X 0 rfl dX1_speedAfter_28 rfl ?_
      refine V_get X (ci := 1) (85 + c) (by omega) (kd_car hc) (by decide) rfl (fun _ h => List.mem_cons_of_mem _ (List.mem_append_right _ h)) 1 (by decide) (List.mem_of_getElem? (i := 2) rfl) rfl rfl dX1_speedAfter_29 ?_
      refine V_isub X dX1_speedAfter_32 ?_
      refine V_mmax X (List.mem_of_getElem? (i := 7) rfl) (List.mem_of_getElem? (i := 8) rfl) (List.mem_of_getElem? (i := 5) rfl) (List.mem_of_getElem? (i := 9) rfl) (Nat.le_of_ble_eq_true rfl) (Nat.le_of_ble_eq_true rfl) (Nat.le_of_ble_eq_true rfl) (Nat.le_of_ble_eq_true rfl) ⟨by decide, by decide⟩ ⟨by omega, by omega⟩ dX1_speedAfter_33 ?_
      exact V_iret X hr rfl ⟨by omega, by omega⟩ (by exact ⟨by unfold spdF; simp_all, rfl⟩) dX1_speedAfter_36 (by decide) (by decide)
  · skip
    refine V_aload_n X 0 rfl dX1_speedAfter_6 rfl ?_
    refine V_get X (ci := 1) (85 + c) (by omega) (kd_car hc) (by decide) rfl (fun _ h => List.mem_cons_of_mem _ (List.mem_append_right _ h)) 0 (by decide) (List.mem_of_getElem? (i := 1) rfl) rfl rfl dX1_speedAfter_7 ?_
    refine V_iload_n X 1 rfl dX1_speedAfter_10 rfl ?_
    refine V_aload_n X 0 rfl dX1_speedAfter_11 rfl ?_
    refine V_get X (ci := 1) (85 + c) (by omega) (kd_car hc) (by decide) rfl (fun _ h => List.mem_cons_of_mem _ (List.mem_append_right _ h)) 1 (by decide) (List.mem_of_getElem? (i := 2) rfl) rfl rfl dX1_speedAfter_12 ?_
    refine V_iadd X dX1_speedAfter_15 ?_
    refine V_mmin X (List.mem_of_getElem? (i := 3) rfl) (List.mem_of_getElem? (i := 4) rfl) (List.mem_of_getElem? (i := 5) rfl) (List.mem_of_getElem? (i := 6) rfl) (Nat.le_of_ble_eq_true rfl) (Nat.le_of_ble_eq_true rfl) (Nat.le_of_ble_eq_true rfl) (Nat.le_of_ble_eq_true rfl) (hR (85 + c) (0)) ⟨by omega, by omega⟩ dX1_speedAfter_16 ?_
    exact V_iret X hr rfl ⟨by omega, by omega⟩ (by exact ⟨by unfold spdF; simp_all, rfl⟩) dX1_speedAfter_19 (by decide) (by decide)
