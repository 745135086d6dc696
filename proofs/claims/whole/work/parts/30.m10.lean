/-! ===== the game's methods: rides, the season's answers, figures ===== -/
theorem FrR.eq {σ u : St} (h : RG σ) (e : u = σ) : FrR σ u := by subst e; exact FrR.rf h
theorem FrS.eq {σ u : St} (h : RG σ) (e : u = σ) : FrS σ u := by subst e; exact FrS.rf h
def TK (σ : St) : Prop := ∀ t c, t < 4 → c < 4 → TC σ t c (σ.1 (73 + 3 * t) 2).toNat
theorem TK.fr {σ u : St} (h : TK σ) (f : FrR σ u) : TK u := fun t c ht hc => by
  rw [f.1 (73 + 3 * t) (by omega)]
  exact (h t c ht hc).fr f
/-- the ride of a track and a car by a row of inputs -/
def rdF (σ : St) (t c : Nat) (inp : Nat → Int) (i : Nat) : RS := rideC σ t c (σ.1 (73 + 3 * t) 2).toNat inp i
def canD (σ : St) (t c : Nat) (ty : Nat) : Prop := ¬ σ.1 (73 + 3 * t) 2 = 0 ∧ (rdF σ t c (σ.1 3) ty).2.2.2 = true
def FlR (σ : St) (t c : Nat) (inp : Nat → Int) (i : Nat) (u : St) : Prop := FlP σ t c (σ.1 (73 + 3 * t) 2).toNat inp i u
theorem FlR.rg {σ u : St} {t c i : Nat} {inp : Nat → Int} (h : FlR σ t c inp i u) : RG u := h.1.2.2
theorem FlR.fr {σ u : St} {t c i : Nat} {inp : Nat → Int} (h : FlR σ t c inp i u) : FrR σ u := h.1
theorem FlR.ov {σ u : St} {t c i : Nat} {inp : Nat → Int} (h : FlR σ t c inp i u) : u.1 4 4 = if (rdF σ t c inp i).2.2.2 = true then 1 else 0 := h.2.2.2.2.1
def ofS (c : Int) : Nat := if c = 100 then 3 else if c = 116 then 4 else if c = 99 then 5 else if c = 103 then 6 else 7
def ofV (c : Int) : Prop := c = 100 ∨ c = 116 ∨ c = 99 ∨ c = 103 ∨ c = 114
def ckF (σ : St) : Nat → Int
  | 0 => 7
  | i + 1 => 31 * ckF σ i + σ.1 (7 + 2 * i) 2 + σ.1 (7 + 2 * i) 8 + σ.1 (7 + 2 * i) 12 + (if σ.1 (7 + 2 * i) 9 = 0 then 0 else 1)
def dbG (p w : Nat → Int) (pl : Int) : Nat → Prop := fun _ => True
theorem asI_congr {p w p2 w2 : Nat → Int} {a b : Nat} (h1 : p a = p2 a ∧ w a = w2 a) (h2 : p b = p2 b ∧ w b = w2 b) : asI p w a b = asI p2 w2 a b := by
  rcases Classical.em (asP p w a b) with h | h
  · rw [asI_y h, asI_y]
    unfold asP at h ⊢
    omega
  · rw [asI_n h, asI_n]
    unfold asP at h ⊢
    omega
theorem dbF_congr {p w p2 w2 : Nat → Int} {pl : Int} (h : ∀ d, d < 6 → p d = p2 d ∧ w d = w2 d) : ∀ m, m ≤ 6 → dbF p w pl m = dbF p2 w2 pl m := by
  intro m
  induction m with
  | zero => intro _; rfl
  | succ m ih =>
    intro hm
    rw [dbF, dbF, ih (by omega), sumF_congr (f := fun o => asI p w o m) (h := fun o => asI p2 w2 o m) 6 (fun o ho => asI_congr (h o ho) (h m (by omega)))]
def mtF (σ : St) : Nat → Int := sumF (fun l => if σ.1 (7 + 2 * l) 9 = 0 then 0 else cntC σ l)

theorem atm_X6_rideTyped_80 : ∀ w ∈ vx_atS RX6 80 "java/lang/UnsupportedOperationException" ["java/lang/RuntimeException", "java/lang/Exception"], goodWord w = true → w ∈ wsX6_rideTyped := fun w h0 hg0 => by
  have h := List.mem_filter.mpr ⟨h0, hg0⟩
  exact List.mem_cons_of_mem _ (List.mem_append_right _ h)
set_option maxRecDepth 100000 in
set_option maxHeartbeats 4000000 in
theorem m_X6_rideTyped (g : Geo) (l : Launch) (hl9 : l.stackTraces = false) (σ : St) (hR : RG σ) (t c : Nat) (ht : t < 4) (hc : c < 4) (hTC : TC σ t c (σ.1 (73 + 3 * t) 2).toNat) (ty : Nat) (hty : σ.1 0 5 = (ty : Int)) (hty60 : ty ≤ 60) : vx_Met l yX6_rideTyped wsX6_rideTyped ({ frames := 6, cells := 1, slots := 6, locals := 90 }) (va_Pc [.ref (ga g (0)), .ref (ga g (73 + 3 * t)), .ref (ga g (85 + c))] (World g σ)) (QV g (fun u => canD σ t c ty ∧ FlR σ t c (σ.1 3) ty u)) (XT g (fun E u => E = "java/lang/UnsupportedOperationException" ∧ ¬ canD σ t c ty ∧ FrR σ u)) 1 6 (gA g) := by
  refine V_metX hl9 (by decide) rfl (Nat.le_of_ble_eq_true rfl) ?_
  intro p9 e9 s9 m9 b9 t9 c9 X hno hr
  refine V_lv (lv' := [(0, .ref (ga g (0))), (1, .ref (ga g (73 + 3 * t))), (2, .ref (ga g (85 + c)))]) rfl ?_
  refine V_aload_n X 1 rfl dX6_rideTyped_0 rfl ?_
  refine V_get X (ci := 5) (73 + 3 * t) (by omega) (kd_tr ht) (by decide) rfl (fun _ h => List.mem_cons_of_mem _ (List.mem_append_left _ (List.mem_append_left _ (List.mem_append_left _ (List.mem_append_left _ (List.mem_append_right _ h)))))) 2 (by decide) (List.mem_of_getElem? (i := 3) rfl) rfl rfl dX6_rideTyped_1 ?_
  refine V_if_ne X 17 (hR _ _) dX6_rideTyped_4 (by decide) (fun q1 => ?_) (fun q1 => ?_)
  · skip
    refine V_aload_n X 0 rfl dX6_rideTyped_17 rfl ?_
    refine V_get X (ci := 6) (0) (by decide) (rfl) (by decide) rfl (fun _ h => List.mem_cons_of_mem _ (List.mem_append_left _ (List.mem_append_left _ (List.mem_append_left _ (List.mem_append_right _ h))))) 6 (by decide) (List.mem_of_getElem? (i := 4) rfl) rfl rfl dX6_rideTyped_18 ?_
    refine V_aload_n X 0 rfl dX6_rideTyped_21 rfl ?_
    refine V_get X (ci := 6) (0) (by decide) (rfl) (by decide) rfl (fun _ h => List.mem_cons_of_mem _ (List.mem_append_left _ (List.mem_append_left _ (List.mem_append_left _ (List.mem_append_right _ h))))) 4 (by decide) (List.mem_of_getElem? (i := 5) rfl) rfl rfl dX6_rideTyped_22 ?_
    refine V_aload_n X 0 rfl dX6_rideTyped_25 rfl ?_
    refine V_get X (ci := 6) (0) (by decide) (rfl) (by decide) rfl (fun _ h => List.mem_cons_of_mem _ (List.mem_append_left _ (List.mem_append_left _ (List.mem_append_left _ (List.mem_append_right _ h))))) 5 (by decide) (List.mem_of_getElem? (i := 6) rfl) rfl rfl dX6_rideTyped_26 ?_
    refine V_top (b := ((ty : Nat) : Int)) hty ?_
    refine V_aload_n X 1 rfl dX6_rideTyped_29 rfl ?_
    refine V_aload_n X 2 rfl dX6_rideTyped_30 rfl ?_
    refine V_callV_V X (na := 4) (ci := 3) (b0 := 4) (by decide) (rfl) (by decide) rfl (m_X3_follow g l hl9 σ hR t c (σ.1 (73 + 3 * t) 2).toNat hTC 3 (by decide) (by decide) rfl rfl ty hty60) gX6_rideTyped_X3_follow rfl rfl rfl (by decide +kernel) ⟨Nat.le_of_ble_eq_true rfl, Nat.le_of_ble_eq_true rfl⟩ rfl rfl (Nat.le_of_ble_eq_true rfl) ⟨Nat.le_of_ble_eq_true rfl, Nat.le_of_ble_eq_true rfl⟩ dX6_rideTyped_31 (fun u3 hp4 => ?_)
    have hf : FlR σ t c (σ.1 3) ty u3 := hp4
    refine V_aload_n X 0 rfl dX6_rideTyped_34 rfl ?_
    refine V_get X (ci := 6) (0) (by decide) (rfl) (by decide) rfl (fun _ h => List.mem_cons_of_mem _ (List.mem_append_left _ (List.mem_append_left _ (List.mem_append_left _ (List.mem_append_right _ h))))) 6 (by decide) (List.mem_of_getElem? (i := 4) rfl) rfl rfl dX6_rideTyped_35 ?_
    refine V_get X (ci := 3) (4) (by decide) (rfl) (by decide) rfl (fun _ h => List.mem_cons_of_mem _ (List.mem_append_left _ (List.mem_append_left _ (List.mem_append_right _ h)))) 4 (by decide) (List.mem_of_getElem? (i := 7) rfl) rfl rfl dX6_rideTyped_38 ?_
    refine V_if_ne X 54 (hf.rg _ _) dX6_rideTyped_41 (by decide) (fun q5 => ?_) (fun q5 => ?_)
    · skip
      exact V_vretX X hr (by exact ⟨⟨by omega, Classical.byContradiction (fun z => by have e := hf.ov; rw [if_neg z] at e; omega)⟩, hf⟩) dX6_rideTyped_54 (by decide) (by decide)
    · skip
      exact V_throw X hno rfl (List.mem_of_getElem? (i := 12) rfl) (by decide) (List.mem_of_getElem? (i := 1) rfl) (List.mem_of_getElem? (i := 2) rfl) (atm_X6_rideTyped_80) gb_X6_80 (List.mem_of_getElem? (i := 3) rfl) (gd_X6_80) dX6_rideTyped_44 dX6_rideTyped_47 dX6_rideTyped_48 dX6_rideTyped_50 dX6_rideTyped_53 (Nat.le_of_ble_eq_true rfl) (Nat.le_of_ble_eq_true rfl) (Nat.le_of_ble_eq_true rfl) (Nat.le_of_ble_eq_true rfl) (by decide) (by decide) (⟨rfl, fun q => absurd q.2 (fun z => by have e := hf.ov; rw [if_pos z] at e; omega), hf.fr⟩)
  · skip
    exact V_throw X hno rfl (List.mem_of_getElem? (i := 11) rfl) (by decide) (List.mem_of_getElem? (i := 1) rfl) (List.mem_of_getElem? (i := 2) rfl) (atm_X6_rideTyped_80) gb_X6_80 (List.mem_of_getElem? (i := 3) rfl) (gd_X6_80) dX6_rideTyped_7 dX6_rideTyped_10 dX6_rideTyped_11 dX6_rideTyped_13 dX6_rideTyped_16 (Nat.le_of_ble_eq_true rfl) (Nat.le_of_ble_eq_true rfl) (Nat.le_of_ble_eq_true rfl) (Nat.le_of_ble_eq_true rfl) (by decide) (by decide) (⟨rfl, fun q => q.1 (by omega), FrR.rf hR⟩)
set_option maxRecDepth 100000 in
set_option maxHeartbeats 4000000 in
theorem m_X6_trackNumbered0 (g : Geo) (l : Launch) (hl9 : l.stackTraces = false) (σ : St) (hR : RG σ) (a : Int) (ha : R32 a) (h1 : σ.1 0 1 ≤ 4) (h2 : 0 ≤ a) (h3 : a < σ.1 0 1) : Met l yX6_trackNumbered wsX6_trackNumbered ({ frames := 0, cells := 0, slots := 0, locals := 0 }) (va_Pc [.ref (ga g (0)), .int (iN (a))] (World g σ)) (QR g (fun b u => b = 73 + 3 * a.toNat ∧ u = σ)) 0 0 (gA g) := by
  refine V_met hl9 (by decide) rfl (Nat.le_of_ble_eq_true rfl) ?_
  intro p9 e9 s9 m9 b9 t9 c9 X hr _
  refine V_lv (lv' := [(0, .ref (ga g (0))), (1, .int (iN (a)))]) rfl ?_
  refine V_iload_n X 1 rfl dX6_trackNumbered_0 rfl ?_
  refine V_if_lt X 12 ha dX6_trackNumbered_1 (by decide) (fun h => absurd h (by omega)) (fun _ => ?_)
  refine V_iload_n X 1 rfl dX6_trackNumbered_4 rfl ?_
  refine V_aload_n X 0 rfl dX6_trackNumbered_5 rfl ?_
  refine V_get X (ci := 6) (0) (by decide) (rfl) (by decide) rfl (fun _ h => List.mem_cons_of_mem _ (List.mem_append_left _ (List.mem_append_right _ h))) 1 (by decide) (List.mem_of_getElem? (i := 3) rfl) rfl rfl dX6_trackNumbered_6 ?_
  refine V_icmp_lt X 23 ha (hR _ _) dX6_trackNumbered_9 (by decide) (fun _ => ?_) (fun h => absurd h (by omega))
  refine V_aload_n X 0 rfl dX6_trackNumbered_23 rfl ?_
  refine V_get X (ci := 6) (0) (by decide) (rfl) (by decide) rfl (fun _ h => List.mem_cons_of_mem _ (List.mem_append_left _ (List.mem_append_right _ h))) 0 (by decide) (List.mem_of_getElem? (i := 4) rfl) rfl rfl dX6_trackNumbered_24 ?_
  refine V_iload_n X 1 rfl dX6_trackNumbered_27 rfl ?_
  refine V_aald14 X (1) (by decide) (rfl) (a.toNat) (by omega) (by omega) dX6_trackNumbered_28 ?_
  exact V_aret X hr (by exact ⟨rfl, rfl⟩) dX6_trackNumbered_29 (by decide) (by decide)
set_option maxRecDepth 100000 in
set_option maxHeartbeats 4000000 in
theorem m_X6_carNumbered0 (g : Geo) (l : Launch) (hl9 : l.stackTraces = false) (σ : St) (hR : RG σ) (a : Int) (ha : R32 a) (h1 : σ.1 0 3 ≤ 4) (h2 : 0 ≤ a) (h3 : a < σ.1 0 3) : Met l yX6_carNumbered wsX6_carNumbered ({ frames := 0, cells := 0, slots := 0, locals := 0 }) (va_Pc [.ref (ga g (0)), .int (iN (a))] (World g σ)) (QR g (fun b u => b = 85 + a.toNat ∧ u = σ)) 0 0 (gA g) := by
  refine V_met hl9 (by decide) rfl (Nat.le_of_ble_eq_true rfl) ?_
  intro p9 e9 s9 m9 b9 t9 c9 X hr _
  refine V_lv (lv' := [(0, .ref (ga g (0))), (1, .int (iN (a)))]) rfl ?_
  refine V_iload_n X 1 rfl dX6_carNumbered_0 rfl ?_
  refine V_if_lt X 12 ha dX6_carNumbered_1 (by decide) (fun h => absurd h (by omega)) (fun _ => ?_)
  refine V_iload_n X 1 rfl dX6_carNumbered_4 rfl ?_
  refine V_aload_n X 0 rfl dX6_carNumbered_5 rfl ?_
  refine V_get X (ci := 6) (0) (by decide) (rfl) (by decide) rfl (fun _ h => List.mem_cons_of_mem _ (List.mem_append_left _ (List.mem_append_right _ h))) 3 (by decide) (List.mem_of_getElem? (i := 3) rfl) rfl rfl dX6_carNumbered_6 ?_
  refine V_icmp_lt X 23 ha (hR _ _) dX6_carNumbered_9 (by decide) (fun _ => ?_) (fun h => absurd h (by omega))
  refine V_aload_n X 0 rfl dX6_carNumbered_23 rfl ?_
  refine V_get X (ci := 6) (0) (by decide) (rfl) (by decide) rfl (fun _ h => List.mem_cons_of_mem _ (List.mem_append_left _ (List.mem_append_right _ h))) 2 (by decide) (List.mem_of_getElem? (i := 4) rfl) rfl rfl dX6_carNumbered_24 ?_
  refine V_iload_n X 1 rfl dX6_carNumbered_27 rfl ?_
  refine V_aald15 X (2) (by decide) (rfl) (a.toNat) (by omega) (by omega) dX6_carNumbered_28 ?_
  exact V_aret X hr (by exact ⟨rfl, rfl⟩) dX6_carNumbered_29 (by decide) (by decide)
set_option maxRecDepth 100000 in
set_option maxHeartbeats 4000000 in
theorem m_X6_rideAgain (g : Geo) (l : Launch) (hl9 : l.stackTraces = false) (σ : St) (hR : RG σ) (j : Nat) (hj : j < 30) (kc : Nat) (hk60 : kc ≤ 60) (hTK : TK σ) (hT4 : σ.1 0 1 ≤ 4) (hC4 : σ.1 0 3 ≤ 4) (ht1 : 0 ≤ σ.1 (7 + 2 * j) 4) (ht2 : σ.1 (7 + 2 * j) 4 < σ.1 0 1) (hc1 : 0 ≤ σ.1 (7 + 2 * j) 5) (hc2 : σ.1 (7 + 2 * j) 5 < σ.1 0 3) : Met l yX6_rideAgain wsX6_rideAgain ({ frames := 4, cells := 0, slots := 0, locals := 90 }) (va_Pc [.ref (ga g (0)), .ref (ga g (7 + 2 * j)), .int (iN (((kc : Nat) : Int)))] (World g σ)) (QV g (fun u => FlR σ (σ.1 (7 + 2 * j) 4).toNat (σ.1 (7 + 2 * j) 5).toNat (σ.1 (7 + 2 * j + 1)) kc u)) 0 0 (gA g) := by
  refine V_met hl9 (by decide) rfl (Nat.le_of_ble_eq_true rfl) ?_
  intro p9 e9 s9 m9 b9 t9 c9 X hr _
  refine V_lv (lv' := [(0, .ref (ga g (0))), (1, .ref (ga g (7 + 2 * j))), (2, .int (iN (((kc : Nat) : Int))))]) rfl ?_
  refine V_aload_n X 0 rfl dX6_rideAgain_0 rfl ?_
  refine V_get X (ci := 6) (0) (by decide) (rfl) (by decide) rfl (fun _ h => List.mem_cons_of_mem _ (List.mem_append_left _ (List.mem_append_left _ (List.mem_append_left _ (List.mem_append_left _ (List.mem_append_left _ (List.mem_append_right _ h))))))) 6 (by decide) (List.mem_of_getElem? (i := 1) rfl) rfl rfl dX6_rideAgain_1 ?_
  refine V_aload_n X 1 rfl dX6_rideAgain_4 rfl ?_
  refine V_get X (ci := 2) (7 + 2 * j) (by omega) (kd_lap hj) (by decide) rfl (fun _ h => List.mem_cons_of_mem _ (List.mem_append_left _ (List.mem_append_left _ (List.mem_append_left _ (List.mem_append_left _ (List.mem_append_right _ h)))))) 0 (by decide) (List.mem_of_getElem? (i := 2) rfl) rfl rfl dX6_rideAgain_5 ?_
  refine V_iload_n X 2 rfl dX6_rideAgain_8 rfl ?_
  refine V_aload_n X 0 rfl dX6_rideAgain_9 rfl ?_
  refine V_aload_n X 1 rfl dX6_rideAgain_10 rfl ?_
  refine V_get X (ci := 2) (7 + 2 * j) (by omega) (kd_lap hj) (by decide) rfl (fun _ h => List.mem_cons_of_mem _ (List.mem_append_left _ (List.mem_append_left _ (List.mem_append_left _ (List.mem_append_left _ (List.mem_append_right _ h)))))) 4 (by decide) (List.mem_of_getElem? (i := 3) rfl) rfl rfl dX6_rideAgain_11 ?_
  refine V_callV_R X (na := 1) (ci := 6) (b0 := 0) (by decide) (rfl) (by decide) rfl (m_X6_trackNumbered0 g l hl9 σ hR (σ.1 (7 + 2 * j) 4) (hR _ _) hT4 ht1 ht2) gX6_rideAgain_X6_trackNumbered rfl rfl rfl (by decide +kernel) ⟨Nat.le_of_ble_eq_true rfl, Nat.le_of_ble_eq_true rfl⟩ rfl rfl (Nat.le_of_ble_eq_true rfl) ⟨Nat.le_of_ble_eq_true rfl, Nat.le_of_ble_eq_true rfl⟩ dX6_rideAgain_14 (fun z1 u2 hp3 => ?_)
  obtain ⟨hb, hu4⟩ := hp3
  have hu4 := hu4.symm
  subst hu4
  subst hb
  refine V_aload_n X 0 rfl dX6_rideAgain_17 rfl ?_
  refine V_aload_n X 1 rfl dX6_rideAgain_18 rfl ?_
  refine V_get X (ci := 2) (7 + 2 * j) (by omega) (kd_lap hj) (by decide) rfl (fun _ h => List.mem_cons_of_mem _ (List.mem_append_left _ (List.mem_append_left _ (List.mem_append_left _ (List.mem_append_left _ (List.mem_append_right _ h)))))) 5 (by decide) (List.mem_of_getElem? (i := 4) rfl) rfl rfl dX6_rideAgain_19 ?_
  refine V_callV_R X (na := 1) (ci := 6) (b0 := 0) (by decide) (rfl) (by decide) rfl (m_X6_carNumbered0 g l hl9 σ hR (σ.1 (7 + 2 * j) 5) (hR _ _) hC4 hc1 hc2) gX6_rideAgain_X6_carNumbered rfl rfl rfl (by decide +kernel) ⟨Nat.le_of_ble_eq_true rfl, Nat.le_of_ble_eq_true rfl⟩ rfl rfl (Nat.le_of_ble_eq_true rfl) ⟨Nat.le_of_ble_eq_true rfl, Nat.le_of_ble_eq_true rfl⟩ dX6_rideAgain_22 (fun z5 u6 hp7 => ?_)
  obtain ⟨hb, hu8⟩ := hp7
  have hu8 := hu8.symm
  subst hu8
  subst hb
  refine V_callV_V X (na := 4) (ci := 3) (b0 := 4) (by decide) (rfl) (by decide) rfl (m_X3_follow g l hl9 σ hR (σ.1 (7 + 2 * j) 4).toNat (σ.1 (7 + 2 * j) 5).toNat (σ.1 (73 + 3 * (σ.1 (7 + 2 * j) 4).toNat) 2).toNat (hTK _ _ (by omega) (by omega)) (7 + 2 * j + 1) (by omega) (by omega) (kd_in hj) (ln_in hj) kc hk60) gX6_rideAgain_X3_follow rfl rfl rfl (by decide +kernel) ⟨Nat.le_of_ble_eq_true rfl, Nat.le_of_ble_eq_true rfl⟩ rfl rfl (Nat.le_of_ble_eq_true rfl) ⟨Nat.le_of_ble_eq_true rfl, Nat.le_of_ble_eq_true rfl⟩ dX6_rideAgain_25 (fun u10 hp11 => ?_)
  have hf : FlR σ (σ.1 (7 + 2 * j) 4).toNat (σ.1 (7 + 2 * j) 5).toNat (σ.1 (7 + 2 * j + 1)) kc u10 := hp11
  exact V_vret X hr (by exact hf) dX6_rideAgain_28 (by decide) (by decide)
set_option maxRecDepth 100000 in
set_option maxHeartbeats 4000000 in
theorem m_X6_tryOut (g : Geo) (l : Launch) (hl9 : l.stackTraces = false) (σ : St) (hR : RG σ) (a b : Int) (ha : R32 a) (hb0 : R32 b) (hTK : TK σ) (hT4 : σ.1 0 1 ≤ 4) (hC4 : σ.1 0 3 ≤ 4) (ty : Nat) (hty : σ.1 0 5 = (ty : Int)) (hty60 : ty ≤ 60) : vx_Met l yX6_tryOut wsX6_tryOut ({ frames := 7, cells := 3, slots := 18, locals := 112 }) (va_Pc [.ref (ga g (0)), .int (iN (a)), .int (iN (b))] (World g σ)) (QI g (fun z u => ((0 ≤ a ∧ a < σ.1 0 1) ∧ 0 ≤ b ∧ b < σ.1 0 3) ∧ canD σ a.toNat b.toNat ty ∧ z = tmF (σ.1 (73 + 3 * a.toNat) 3) (rdF σ a.toNat b.toNat (σ.1 3) ty) ∧ FrR σ u)) (XT g (fun E u => ((E = "java/lang/IndexOutOfBoundsException" ∧ ¬ ((0 ≤ a ∧ a < σ.1 0 1) ∧ 0 ≤ b ∧ b < σ.1 0 3)) ∨ (E = "java/lang/UnsupportedOperationException" ∧ ((0 ≤ a ∧ a < σ.1 0 1) ∧ 0 ≤ b ∧ b < σ.1 0 3) ∧ ¬ canD σ a.toNat b.toNat ty)) ∧ FrR σ u)) 3 18 (gA g) := by
  refine V_metX hl9 (by decide) rfl (Nat.le_of_ble_eq_true rfl) ?_
  intro p9 e9 s9 m9 b9 t9 c9 X hno hr
  refine V_lv (lv' := [(0, .ref (ga g (0))), (1, .int (iN (a))), (2, .int (iN (b)))]) rfl ?_
  refine V_aload_n X 0 rfl dX6_tryOut_0 rfl ?_
  refine V_aload_n X 0 rfl dX6_tryOut_1 rfl ?_
  refine V_iload_n X 1 rfl dX6_tryOut_2 rfl ?_
  refine V_callV_Rx X (na := 1) (ci := 6) (b0 := 0) (by decide) (rfl) (by decide) rfl (m_X6_trackNumbered g l hl9 σ hR a ha hT4) gX6_tryOut_X6_trackNumbered rfl rfl rfl (by decide +kernel) ⟨Nat.le_of_ble_eq_true rfl, Nat.le_of_ble_eq_true rfl⟩ rfl rfl (Nat.le_of_ble_eq_true rfl) ⟨Nat.le_of_ble_eq_true rfl, Nat.le_of_ble_eq_true rfl⟩ dX6_tryOut_3 (fun E u hp => ?_) (fun z1 u2 hp3 => ?_)
  · skip
    exact VX_out X hno (⟨Or.inl ⟨hp.1, fun q => hp.2.1 q.1⟩, FrR.eq hR hp.2.2⟩) (by decide) (by decide)
  · skip
    obtain ⟨h1, h2, hb, hu4⟩ := hp3
    have hu4 := hu4.symm
    subst hu4
    subst hb
    refine V_aload_n X 0 rfl dX6_tryOut_6 rfl ?_
    refine V_iload_n X 2 rfl dX6_tryOut_7 rfl ?_
    refine V_callV_Rx X (na := 1) (ci := 6) (b0 := 0) (by decide) (rfl) (by decide) rfl (m_X6_carNumbered g l hl9 σ hR b hb0 hC4) gX6_tryOut_X6_carNumbered rfl rfl rfl (by decide +kernel) ⟨Nat.le_of_ble_eq_true rfl, Nat.le_of_ble_eq_true rfl⟩ rfl rfl (Nat.le_of_ble_eq_true rfl) ⟨Nat.le_of_ble_eq_true rfl, Nat.le_of_ble_eq_true rfl⟩ dX6_tryOut_8 (fun E u hp => ?_) (fun z5 u6 hp7 => ?_)
    · skip
      exact VX_out X hno (⟨Or.inl ⟨hp.1, fun q => hp.2.1 q.2⟩, FrR.eq hR hp.2.2⟩) (by decide) (by decide)
    · skip
      obtain ⟨h3, h4, hb, hu8⟩ := hp7
      have hu8 := hu8.symm
      subst hu8
      subst hb
      refine V_callV_Vx X (na := 2) (ci := 6) (b0 := 0) (by decide) (rfl) (by decide) rfl (m_X6_rideTyped g l hl9 σ hR a.toNat b.toNat (by omega) (by omega) (hTK _ _ (by omega) (by omega)) ty hty hty60) gX6_tryOut_X6_rideTyped rfl rfl rfl (by decide +kernel) ⟨Nat.le_of_ble_eq_true rfl, Nat.le_of_ble_eq_true rfl⟩ rfl rfl (Nat.le_of_ble_eq_true rfl) ⟨Nat.le_of_ble_eq_true rfl, Nat.le_of_ble_eq_true rfl⟩ dX6_tryOut_11 (fun E u hp => ?_) (fun u10 hp11 => ?_)
      · skip
        exact VX_out X hno (⟨Or.inr ⟨hp.1, ⟨⟨h1, h2⟩, h3, h4⟩, hp.2.1⟩, hp.2.2⟩) (by decide) (by decide)
      · skip
        obtain ⟨hcd, hf⟩ := hp11
        refine V_aload_n X 0 rfl dX6_tryOut_14 rfl ?_
        refine V_get X (ci := 6) (0) (by decide) (rfl) (by decide) rfl (fun _ h => List.mem_cons_of_mem _ (List.mem_append_left _ (List.mem_append_left _ (List.mem_append_left _ (List.mem_append_left _ (List.mem_append_left _ (List.mem_append_right _ h))))))) 6 (by decide) (List.mem_of_getElem? (i := 1) rfl) rfl rfl dX6_tryOut_15 ?_
        refine V_get X (ci := 3) (4) (by decide) (rfl) (by decide) rfl (fun _ h => List.mem_cons_of_mem _ (List.mem_append_left _ (List.mem_append_left _ (List.mem_append_left _ (List.mem_append_left _ (List.mem_append_right _ h)))))) 3 (by decide) (List.mem_of_getElem? (i := 2) rfl) rfl rfl dX6_tryOut_18 ?_
        exact V_iretX X hr rfl (hf.rg _ _) (by exact ⟨⟨⟨h1, h2⟩, h3, h4⟩, hcd, hf.2.2.2.2.2, hf.fr⟩) dX6_tryOut_21 (by decide) (by decide)
theorem atm_X6_replay_113 : ∀ w ∈ vx_atN RX6 113 "java/util/NoSuchElementException" ["java/lang/RuntimeException", "java/lang/Exception"], goodWord w = true → w ∈ wsX6_replay := fun w h0 hg0 => by
  have h := List.mem_filter.mpr ⟨h0, hg0⟩
  exact List.mem_cons_of_mem _ (List.mem_append_left _ (List.mem_append_right _ h))
set_option maxRecDepth 100000 in
set_option maxHeartbeats 4000000 in
theorem m_X6_replay (g : Geo) (l : Launch) (hl9 : l.stackTraces = false) (σ : St) (hR : RG σ) (a k w : Int) (ha : R32 a) (hk : R32 k) (hw : R32 w) (n : Nat) (hLB : LB σ n) (hTK : TK σ) (hT4 : σ.1 0 1 ≤ 4) (hC4 : σ.1 0 3 ≤ 4) (hlt : ∀ l, l < n → (0 ≤ σ.1 (7 + 2 * l) 4 ∧ σ.1 (7 + 2 * l) 4 < σ.1 0 1) ∧ 0 ≤ σ.1 (7 + 2 * l) 5 ∧ σ.1 (7 + 2 * l) 5 < σ.1 0 3) : vx_Met l yX6_replay wsX6_replay ({ frames := 7, cells := 2, slots := 12, locals := 112 }) (va_Pc [.ref (ga g (0)), .int (iN (a)), .int (iN (k)), .int (iN (w))] (World g σ)) (QI g (fun z u => (0 ≤ a ∧ a < σ.1 5 1) ∧ (0 ≤ k ∧ k ≤ σ.1 (7 + 2 * a.toNat) 1) ∧ z = (if w = 0 then (rdF σ (σ.1 (7 + 2 * a.toNat) 4).toNat (σ.1 (7 + 2 * a.toNat) 5).toNat (σ.1 (7 + 2 * a.toNat + 1)) k.toNat).1 else (rdF σ (σ.1 (7 + 2 * a.toNat) 4).toNat (σ.1 (7 + 2 * a.toNat) 5).toNat (σ.1 (7 + 2 * a.toNat + 1)) k.toNat).2.1) ∧ FrR σ u)) (XT g (fun E u => ((E = "java/lang/IndexOutOfBoundsException" ∧ ¬ (0 ≤ a ∧ a < σ.1 5 1)) ∨ (E = "java/util/NoSuchElementException" ∧ (0 ≤ a ∧ a < σ.1 5 1) ∧ ¬ (0 ≤ k ∧ k ≤ σ.1 (7 + 2 * a.toNat) 1))) ∧ FrR σ u)) 2 12 (gA g) := by
  refine V_metX hl9 (by decide) rfl (Nat.le_of_ble_eq_true rfl) ?_
  intro p9 e9 s9 m9 b9 t9 c9 X hno hr
  have hn := hLB.1
  have hn30 : σ.1 5 1 ≤ 30 := by have := hLB.2.1; omega
  refine V_lv (lv' := [(0, .ref (ga g (0))), (1, .int (iN (a))), (2, .int (iN (k))), (3, .int (iN (w)))]) rfl ?_
  refine V_aload_n X 0 rfl dX6_replay_0 rfl ?_
  refine V_iload_n X 1 rfl dX6_replay_1 rfl ?_
  refine V_callV_Rx X (na := 1) (ci := 6) (b0 := 0) (by decide) (rfl) (by decide) rfl (m_X6_lapNumbered g l hl9 σ hR a ha hn30) gX6_replay_X6_lapNumbered rfl rfl rfl (by decide +kernel) ⟨Nat.le_of_ble_eq_true rfl, Nat.le_of_ble_eq_true rfl⟩ rfl rfl (Nat.le_of_ble_eq_true rfl) ⟨Nat.le_of_ble_eq_true rfl, Nat.le_of_ble_eq_true rfl⟩ dX6_replay_2 (fun E u hp => ?_) (fun z1 u2 hp3 => ?_)
  · skip
    exact VX_out X hno (⟨Or.inl ⟨hp.1, hp.2.1⟩, FrR.eq hR hp.2.2⟩) (by decide) (by decide)
  · skip
    obtain ⟨h1, h2, hb, hu4⟩ := hp3
    have hu4 := hu4.symm
    subst hu4
    subst hb
    refine V_astore X [(4, .ref (ga g (7 + 2 * (a).toNat))), (0, .ref (ga g (0))), (1, .int (iN (a))), (2, .int (iN (k))), (3, .int (iN (w)))] dX6_replay_5 (by decide) rfl ?_
    refine V_iload_n X 3 rfl dX6_replay_7 rfl ?_
    refine V_if_lt X 20 hk dX6_replay_8 (by decide) (fun q5 => ?_) (fun q5 => ?_)
    · skip
      exact V_throwN X hno rfl (List.mem_of_getElem? (i := 14) rfl) (by decide) (List.mem_of_getElem? (i := 1) rfl) (List.mem_of_getElem? (i := 2) rfl) (atm_X6_replay_113) gb_X6_113 (List.mem_of_getElem? (i := 4) rfl) (gd_X6_113) dX6_replay_20 dX6_replay_23 dX6_replay_24 dX6_replay_26 dX6_replay_29 (Nat.le_of_ble_eq_true rfl) (Nat.le_of_ble_eq_true rfl) (Nat.le_of_ble_eq_true rfl) (Nat.le_of_ble_eq_true rfl) (by decide) (by decide) (⟨Or.inr ⟨rfl, ⟨h1, h2⟩, by omega⟩, FrR.rf hR⟩)
    · skip
      refine V_iload_n X 3 rfl dX6_replay_11 rfl ?_
      refine V_aload X 0 rfl dX6_replay_12 ?_
      refine V_get X (ci := 2) (7 + 2 * (a).toNat) (by omega) (kd_lap (by omega)) (by decide) rfl (fun _ h => List.mem_cons_of_mem _ (List.mem_append_left _ (List.mem_append_left _ (List.mem_append_left _ (List.mem_append_left _ (List.mem_append_left _ (List.mem_append_left _ (List.mem_append_left _ (List.mem_append_right _ h))))))))) 1 (by decide) (List.mem_of_getElem? (i := 3) rfl) rfl rfl dX6_replay_14 ?_
      refine V_icmp_le X 30 hk (hR _ _) dX6_replay_17 (by decide) (fun q6 => ?_) (fun q6 => ?_)
      · skip
        refine V_aload_n X 1 rfl dX6_replay_30 rfl ?_
        refine V_aload X 0 rfl dX6_replay_31 ?_
        refine V_iload_n X 3 rfl dX6_replay_33 rfl ?_
        refine V_top (b := ((k.toNat : Nat) : Int)) (by omega) ?_
        have hrow := hLB.2.2 a.toNat (by omega)
        have hrt := hlt a.toNat (by omega)
        have hr2 := hrow.2.1
        refine V_callV_V X (na := 2) (ci := 6) (b0 := 0) (by decide) (rfl) (by decide) rfl (m_X6_rideAgain g l hl9 σ hR a.toNat (by omega) k.toNat (by omega) hTK hT4 hC4 hrt.1.1 hrt.1.2 hrt.2.1 hrt.2.2) gX6_replay_X6_rideAgain rfl rfl rfl (by decide +kernel) ⟨Nat.le_of_ble_eq_true rfl, Nat.le_of_ble_eq_true rfl⟩ rfl rfl (Nat.le_of_ble_eq_true rfl) ⟨Nat.le_of_ble_eq_true rfl, Nat.le_of_ble_eq_true rfl⟩ dX6_replay_34 (fun u8 hp9 => ?_)
        have hf := hp9
        refine V_iload_n X 4 rfl dX6_replay_37 rfl ?_
        refine V_if_eq X 51 hw dX6_replay_38 (by decide) (fun q10 => ?_) (fun q10 => ?_)
        · skip
          refine V_aload_n X 1 rfl dX6_replay_51 rfl ?_
          refine V_get X (ci := 6) (0) (by decide) (rfl) (by decide) rfl (fun _ h => List.mem_cons_of_mem _ (List.mem_append_left _ (List.mem_append_left _ (List.mem_append_left _ (List.mem_append_left _ (List.mem_append_left _ (List.mem_append_left _ (List.mem_append_right _ h)))))))) 6 (by decide) (List.mem_of_getElem? (i := 4) rfl) rfl rfl dX6_replay_52 ?_
          refine V_get X (ci := 3) (4) (by decide) (rfl) (by decide) rfl (fun _ h => List.mem_cons_of_mem _ (List.mem_append_left _ (List.mem_append_left _ (List.mem_append_left _ (List.mem_append_left _ (List.mem_append_left _ (List.mem_append_right _ h))))))) 0 (by decide) (List.mem_of_getElem? (i := 6) rfl) rfl rfl dX6_replay_55 ?_
          exact V_iretX X hr rfl (hf.rg _ _) (by exact ⟨⟨h1, h2⟩, by omega, by rw [if_pos (by omega)]; exact hf.2.1, hf.fr⟩) dX6_replay_58 (by decide) (by decide)
        · skip
          refine V_aload_n X 1 rfl dX6_replay_41 rfl ?_
          refine V_get X (ci := 6) (0) (by decide) (rfl) (by decide) rfl (fun _ h => List.mem_cons_of_mem _ (List.mem_append_left _ (List.mem_append_left _ (List.mem_append_left _ (List.mem_append_left _ (List.mem_append_left _ (List.mem_append_left _ (List.mem_append_right _ h)))))))) 6 (by decide) (List.mem_of_getElem? (i := 4) rfl) rfl rfl dX6_replay_42 ?_
          refine V_get X (ci := 3) (4) (by decide) (rfl) (by decide) rfl (fun _ h => List.mem_cons_of_mem _ (List.mem_append_left _ (List.mem_append_left _ (List.mem_append_left _ (List.mem_append_left _ (List.mem_append_left _ (List.mem_append_right _ h))))))) 1 (by decide) (List.mem_of_getElem? (i := 5) rfl) rfl rfl dX6_replay_45 ?_
          refine V_goto X 58 dX6_replay_48 (by decide) ?_
          exact V_iretX X hr rfl (hf.rg _ _) (by exact ⟨⟨h1, h2⟩, by omega, by rw [if_neg (by omega)]; exact hf.2.2.1, hf.fr⟩) dX6_replay_58 (by decide) (by decide)
      · skip
        exact V_throwN X hno rfl (List.mem_of_getElem? (i := 14) rfl) (by decide) (List.mem_of_getElem? (i := 1) rfl) (List.mem_of_getElem? (i := 2) rfl) (atm_X6_replay_113) gb_X6_113 (List.mem_of_getElem? (i := 4) rfl) (gd_X6_113) dX6_replay_20 dX6_replay_23 dX6_replay_24 dX6_replay_26 dX6_replay_29 (Nat.le_of_ble_eq_true rfl) (Nat.le_of_ble_eq_true rfl) (Nat.le_of_ble_eq_true rfl) (Nat.le_of_ble_eq_true rfl) (by decide) (by decide) (⟨Or.inr ⟨rfl, ⟨h1, h2⟩, by omega⟩, FrR.rf hR⟩)
theorem atm_X6_findLap_113 : ∀ w ∈ vx_atN RX6 113 "java/util/NoSuchElementException" ["java/lang/RuntimeException", "java/lang/Exception"], goodWord w = true → w ∈ wsX6_findLap := fun w h0 hg0 => by
  have h := List.mem_filter.mpr ⟨h0, hg0⟩
  exact List.mem_cons_of_mem _ (List.mem_append_right _ h)
theorem atm_X6_findLap_293 : ∀ w ∈ vx_atS RX6 293 "java/lang/IndexOutOfBoundsException" ["java/lang/RuntimeException", "java/lang/Exception"], goodWord w = true → w ∈ wsX6_findLap := fun w h0 hg0 => by
  have h := List.mem_filter.mpr ⟨h0, hg0⟩
  exact List.mem_cons_of_mem _ (List.mem_append_left _ (List.mem_append_right _ h))
set_option maxRecDepth 100000 in
set_option maxHeartbeats 4000000 in
theorem m_X6_findLap (g : Geo) (l : Launch) (hl9 : l.stackTraces = false) (σ : St) (hR : RG σ) (r d : Int) (hr0 : R32 r) (hd0 : R32 d) (n : Nat) (hLB : LB σ n) : vx_Met l yX6_findLap wsX6_findLap ({ frames := 7, cells := 2, slots := 12, locals := 111 }) (va_Pc [.ref (ga g (0)), .int (iN (r)), .int (iN (d))] (World g σ)) (QI g (fun z u => ((0 ≤ r ∧ r < σ.1 67 1) ∧ 0 ≤ d ∧ d < 6) ∧ ¬ lapF σ n r d.toNat n = -1 ∧ z = lapF σ n r d.toNat n ∧ FLp σ n r n u)) (XT g (fun E u => ((E = "java/lang/IndexOutOfBoundsException" ∧ ¬ ((0 ≤ r ∧ r < σ.1 67 1) ∧ 0 ≤ d ∧ d < 6)) ∨ (E = "java/util/NoSuchElementException" ∧ ((0 ≤ r ∧ r < σ.1 67 1) ∧ 0 ≤ d ∧ d < 6) ∧ lapF σ n r d.toNat n = -1)) ∧ FrS σ u)) 2 12 (gA g) := by
  refine V_metX hl9 (by decide) rfl (Nat.le_of_ble_eq_true rfl) ?_
  intro p9 e9 s9 m9 b9 t9 c9 X hno hr
  have hn := hLB.1
  have hn30 : σ.1 5 1 ≤ 30 := by have := hLB.2.1; omega
  refine V_lv (lv' := [(0, .ref (ga g (0))), (1, .int (iN (r))), (2, .int (iN (d)))]) rfl ?_
  refine V_iload_n X 1 rfl dX6_findLap_0 rfl ?_
  refine V_if_lt X 15 hr0 dX6_findLap_1 (by decide) (fun q1 => ?_) (fun q1 => ?_)
  · skip
    exact V_throwW X hno rfl (List.mem_of_getElem? (i := 24) rfl) (by decide) (List.mem_of_getElem? (i := 1) rfl) (List.mem_of_getElem? (i := 2) rfl) (atm_X6_findLap_293) gb_X6_293 (List.mem_of_getElem? (i := 2) rfl) (gd_X6_293) dX6_findLap_15 dX6_findLap_18 dX6_findLap_19 dX6_findLap_22 dX6_findLap_25 (Nat.le_of_ble_eq_true rfl) (Nat.le_of_ble_eq_true rfl) (Nat.le_of_ble_eq_true rfl) (Nat.le_of_ble_eq_true rfl) (by decide) (by decide) (⟨Or.inl ⟨rfl, by omega⟩, FrS.rf hR⟩)
  · skip
    refine V_iload_n X 1 rfl dX6_findLap_4 rfl ?_
    refine V_aload_n X 0 rfl dX6_findLap_5 rfl ?_
    refine V_get X (ci := 6) (0) (by decide) (rfl) (by decide) rfl (fun _ h => List.mem_cons_of_mem _ (List.mem_append_left _ (List.mem_append_left _ (List.mem_append_left _ (List.mem_append_left _ (List.mem_append_left _ (List.mem_append_right _ h))))))) 8 (by decide) (List.mem_of_getElem? (i := 5) rfl) rfl rfl dX6_findLap_6 ?_
    refine V_get X (ci := 4) (67) (by decide) (rfl) (by decide) rfl (fun _ h => List.mem_cons_of_mem _ (List.mem_append_left _ (List.mem_append_left _ (List.mem_append_left _ (List.mem_append_left _ (List.mem_append_right _ h)))))) 1 (by decide) (List.mem_of_getElem? (i := 6) rfl) rfl rfl dX6_findLap_9 ?_
    refine V_icmp_lt X 26 hr0 (hR _ _) dX6_findLap_12 (by decide) (fun q2 => ?_) (fun q2 => ?_)
    · skip
      refine V_aload_n X 0 rfl dX6_findLap_26 rfl ?_
      refine V_iload_n X 2 rfl dX6_findLap_27 rfl ?_
      refine V_callV_Vx X (na := 1) (ci := 6) (b0 := 0) (by decide) (rfl) (by decide) rfl (m_X6_requireDriver g l hl9 σ hR d hd0) gX6_findLap_X6_requireDriver rfl rfl rfl (by decide +kernel) ⟨Nat.le_of_ble_eq_true rfl, Nat.le_of_ble_eq_true rfl⟩ rfl rfl (Nat.le_of_ble_eq_true rfl) ⟨Nat.le_of_ble_eq_true rfl, Nat.le_of_ble_eq_true rfl⟩ dX6_findLap_28 (fun E u hp => ?_) (fun u4 hp5 => ?_)
      · skip
        exact VX_out X hno (⟨Or.inl ⟨hp.1, fun q => hp.2.1 q.2⟩, FrS.eq hR hp.2.2⟩) (by decide) (by decide)
      · skip
        obtain ⟨hd1, hd2, hu6⟩ := hp5
        have hu6 := hu6.symm
        subst hu6
        refine V_aload_n X 0 rfl dX6_findLap_31 rfl ?_
        refine V_get X (ci := 6) (0) (by decide) (rfl) (by decide) rfl (fun _ h => List.mem_cons_of_mem _ (List.mem_append_left _ (List.mem_append_left _ (List.mem_append_left _ (List.mem_append_left _ (List.mem_append_left _ (List.mem_append_right _ h))))))) 8 (by decide) (List.mem_of_getElem? (i := 5) rfl) rfl rfl dX6_findLap_32 ?_
        refine V_aload_n X 0 rfl dX6_findLap_35 rfl ?_
        refine V_get X (ci := 6) (0) (by decide) (rfl) (by decide) rfl (fun _ h => List.mem_cons_of_mem _ (List.mem_append_left _ (List.mem_append_left _ (List.mem_append_left _ (List.mem_append_left _ (List.mem_append_left _ (List.mem_append_right _ h))))))) 7 (by decide) (List.mem_of_getElem? (i := 7) rfl) rfl rfl dX6_findLap_36 ?_
        refine V_iload_n X 1 rfl dX6_findLap_39 rfl ?_
        refine V_callV_V X (na := 2) (ci := 4) (b0 := 67) (by decide) (rfl) (by decide) rfl (m_X4_findLaps g l hl9 σ hR n hLB r hr0) gX6_findLap_X4_findLaps rfl rfl rfl (by decide +kernel) ⟨Nat.le_of_ble_eq_true rfl, Nat.le_of_ble_eq_true rfl⟩ rfl rfl (Nat.le_of_ble_eq_true rfl) ⟨Nat.le_of_ble_eq_true rfl, Nat.le_of_ble_eq_true rfl⟩ dX6_findLap_40 (fun u8 hp9 => ?_)
        have hf := hp9
        refine V_aload_n X 0 rfl dX6_findLap_43 rfl ?_
        refine V_get X (ci := 6) (0) (by decide) (rfl) (by decide) rfl (fun _ h => List.mem_cons_of_mem _ (List.mem_append_left _ (List.mem_append_left _ (List.mem_append_left _ (List.mem_append_left _ (List.mem_append_left _ (List.mem_append_right _ h))))))) 8 (by decide) (List.mem_of_getElem? (i := 5) rfl) rfl rfl dX6_findLap_44 ?_
        refine V_get X (ci := 4) (67) (by decide) (rfl) (by decide) rfl (fun _ h => List.mem_cons_of_mem _ (List.mem_append_left _ (List.mem_append_left _ (List.mem_append_left _ (List.mem_append_left _ (List.mem_append_right _ h)))))) 4 (by decide) (List.mem_of_getElem? (i := 8) rfl) rfl rfl dX6_findLap_47 ?_
        refine V_iload_n X 2 rfl dX6_findLap_50 rfl ?_
        refine V_iald X (N := 6) (69) (by decide) (rfl) (rfl) (by decide) (d.toNat) (by omega) (by omega) dX6_findLap_51 ?_
        refine V_iconst X dX6_findLap_52 ?_
        refine V_icmp_ne X 67 (hf.1.2.2 _ _) ⟨by decide, by decide⟩ dX6_findLap_53 (by decide) (fun q10 => ?_) (fun q10 => ?_)
        · skip
          refine V_aload_n X 0 rfl dX6_findLap_67 rfl ?_
          refine V_get X (ci := 6) (0) (by decide) (rfl) (by decide) rfl (fun _ h => List.mem_cons_of_mem _ (List.mem_append_left _ (List.mem_append_left _ (List.mem_append_left _ (List.mem_append_left _ (List.mem_append_left _ (List.mem_append_right _ h))))))) 8 (by decide) (List.mem_of_getElem? (i := 5) rfl) rfl rfl dX6_findLap_68 ?_
          refine V_get X (ci := 4) (67) (by decide) (rfl) (by decide) rfl (fun _ h => List.mem_cons_of_mem _ (List.mem_append_left _ (List.mem_append_left _ (List.mem_append_left _ (List.mem_append_left _ (List.mem_append_right _ h)))))) 4 (by decide) (List.mem_of_getElem? (i := 8) rfl) rfl rfl dX6_findLap_71 ?_
          refine V_iload_n X 2 rfl dX6_findLap_74 rfl ?_
          refine V_iald X (N := 6) (69) (by decide) (rfl) (rfl) (by decide) (d.toNat) (by omega) (by omega) dX6_findLap_75 ?_
          exact V_iretX X hr rfl (hf.1.2.2 _ _) (by exact ⟨⟨⟨by omega, by omega⟩, by omega, by omega⟩, by have e := hf.2.2 d.toNat (by omega); omega, hf.2.2 d.toNat (by omega), hf⟩) dX6_findLap_76 (by decide) (by decide)
        · skip
          exact V_throwNW X hno rfl (List.mem_of_getElem? (i := 25) rfl) (by decide) (List.mem_of_getElem? (i := 3) rfl) (List.mem_of_getElem? (i := 4) rfl) (atm_X6_findLap_113) gb_X6_113 (List.mem_of_getElem? (i := 4) rfl) (gd_X6_113) dX6_findLap_56 dX6_findLap_59 dX6_findLap_60 dX6_findLap_63 dX6_findLap_66 (Nat.le_of_ble_eq_true rfl) (Nat.le_of_ble_eq_true rfl) (Nat.le_of_ble_eq_true rfl) (Nat.le_of_ble_eq_true rfl) (by decide) (by decide) (⟨Or.inr ⟨rfl, ⟨⟨by omega, by omega⟩, by omega, by omega⟩, by have e := hf.2.2 d.toNat (by omega); omega⟩, hf.1⟩)
    · skip
      exact V_throwW X hno rfl (List.mem_of_getElem? (i := 24) rfl) (by decide) (List.mem_of_getElem? (i := 1) rfl) (List.mem_of_getElem? (i := 2) rfl) (atm_X6_findLap_293) gb_X6_293 (List.mem_of_getElem? (i := 2) rfl) (gd_X6_293) dX6_findLap_15 dX6_findLap_18 dX6_findLap_19 dX6_findLap_22 dX6_findLap_25 (Nat.le_of_ble_eq_true rfl) (Nat.le_of_ble_eq_true rfl) (Nat.le_of_ble_eq_true rfl) (Nat.le_of_ble_eq_true rfl) (by decide) (by decide) (⟨Or.inl ⟨rfl, by omega⟩, FrS.rf hR⟩)
set_option maxRecDepth 100000 in
set_option maxHeartbeats 4000000 in
theorem m_X6_lapIn (g : Geo) (l : Launch) (hl9 : l.stackTraces = false) (σ : St) (hR : RG σ) (r d : Int) (hr0 : R32 r) (hd0 : R32 d) (n : Nat) (hLB : LB σ n) : vx_Met l yX6_lapIn wsX6_lapIn ({ frames := 8, cells := 2, slots := 12, locals := 133 }) (va_Pc [.ref (ga g (0)), .int (iN (r)), .int (iN (d))] (World g σ)) (QI g (fun z u => ((0 ≤ r ∧ r < σ.1 67 1) ∧ 0 ≤ d ∧ d < 6) ∧ ¬ lapF σ n r d.toNat n = -1 ∧ z = lapF σ n r d.toNat n ∧ FrS σ u)) (XT g (fun E u => ((E = "java/lang/IndexOutOfBoundsException" ∧ ¬ ((0 ≤ r ∧ r < σ.1 67 1) ∧ 0 ≤ d ∧ d < 6)) ∨ (E = "java/util/NoSuchElementException" ∧ ((0 ≤ r ∧ r < σ.1 67 1) ∧ 0 ≤ d ∧ d < 6) ∧ lapF σ n r d.toNat n = -1)) ∧ FrS σ u)) 2 12 (gA g) := by
  refine V_metX hl9 (by decide) rfl (Nat.le_of_ble_eq_true rfl) ?_
  intro p9 e9 s9 m9 b9 t9 c9 X hno hr
  refine V_lv (lv' := [(0, .ref (ga g (0))), (1, .int (iN (r))), (2, .int (iN (d)))]) rfl ?_
  refine V_aload_n X 0 rfl dX6_lapIn_0 rfl ?_
  refine V_iload_n X 1 rfl dX6_lapIn_1 rfl ?_
  refine V_iload_n X 2 rfl dX6_lapIn_2 rfl ?_
  refine V_callV_Ix X (na := 2) (ci := 6) (b0 := 0) (by decide) (rfl) (by decide) rfl (m_X6_findLap g l hl9 σ hR r d hr0 hd0 n hLB) gX6_lapIn_X6_findLap rfl rfl rfl (by decide +kernel) ⟨Nat.le_of_ble_eq_true rfl, Nat.le_of_ble_eq_true rfl⟩ rfl rfl (Nat.le_of_ble_eq_true rfl) ⟨Nat.le_of_ble_eq_true rfl, Nat.le_of_ble_eq_true rfl⟩ dX6_lapIn_3 (fun E u hp => ?_) (fun z1 u2 z1r hp3 => ?_)
  · skip
    exact VX_out X hno (hp) (by decide) (by decide)
  · skip
    obtain ⟨g1, g2, g3, g4⟩ := hp3
    exact V_iretX X hr rfl z1r (by exact ⟨g1, g2, g3, g4.1⟩) dX6_lapIn_6 (by decide) (by decide)
set_option maxRecDepth 100000 in
set_option maxHeartbeats 4000000 in
theorem m_X6_placeIn (g : Geo) (l : Launch) (hl9 : l.stackTraces = false) (σ : St) (hR : RG σ) (r d : Int) (hr0 : R32 r) (hd0 : R32 d) (n : Nat) (hLB : LB σ n) : vx_Met l yX6_placeIn wsX6_placeIn ({ frames := 8, cells := 2, slots := 12, locals := 133 }) (va_Pc [.ref (ga g (0)), .int (iN (r)), .int (iN (d))] (World g σ)) (QI g (fun z u => ((0 ≤ r ∧ r < σ.1 67 1) ∧ 0 ≤ d ∧ d < 6) ∧ ¬ lapF σ n r d.toNat n = -1 ∧ z = plF σ n r.toNat d.toNat + 1 ∧ FrS σ u)) (XT g (fun E u => ((E = "java/lang/IndexOutOfBoundsException" ∧ ¬ ((0 ≤ r ∧ r < σ.1 67 1) ∧ 0 ≤ d ∧ d < 6)) ∨ (E = "java/util/NoSuchElementException" ∧ ((0 ≤ r ∧ r < σ.1 67 1) ∧ 0 ≤ d ∧ d < 6) ∧ lapF σ n r d.toNat n = -1)) ∧ FrS σ u)) 2 12 (gA g) := by
  refine V_metX hl9 (by decide) rfl (Nat.le_of_ble_eq_true rfl) ?_
  intro p9 e9 s9 m9 b9 t9 c9 X hno hr
  have hn := hLB.1
  have hn30 : σ.1 5 1 ≤ 30 := by have := hLB.2.1; omega
  refine V_lv (lv' := [(0, .ref (ga g (0))), (1, .int (iN (r))), (2, .int (iN (d)))]) rfl ?_
  refine V_aload_n X 0 rfl dX6_placeIn_0 rfl ?_
  refine V_get X (ci := 6) (0) (by decide) (rfl) (by decide) rfl (fun _ h => List.mem_cons_of_mem _ (List.mem_append_left _ (List.mem_append_left _ (List.mem_append_left _ (List.mem_append_left _ (List.mem_append_left _ (List.mem_append_right _ h))))))) 8 (by decide) (List.mem_of_getElem? (i := 1) rfl) rfl rfl dX6_placeIn_1 ?_
  refine V_aload_n X 0 rfl dX6_placeIn_4 rfl ?_
  refine V_get X (ci := 6) (0) (by decide) (rfl) (by decide) rfl (fun _ h => List.mem_cons_of_mem _ (List.mem_append_left _ (List.mem_append_left _ (List.mem_append_left _ (List.mem_append_left _ (List.mem_append_left _ (List.mem_append_right _ h))))))) 7 (by decide) (List.mem_of_getElem? (i := 2) rfl) rfl rfl dX6_placeIn_5 ?_
  refine V_aload_n X 0 rfl dX6_placeIn_8 rfl ?_
  refine V_iload_n X 1 rfl dX6_placeIn_9 rfl ?_
  refine V_iload_n X 2 rfl dX6_placeIn_10 rfl ?_
  refine V_callV_Ix X (na := 2) (ci := 6) (b0 := 0) (by decide) (rfl) (by decide) rfl (m_X6_findLap g l hl9 σ hR r d hr0 hd0 n hLB) gX6_placeIn_X6_findLap rfl rfl rfl (by decide +kernel) ⟨Nat.le_of_ble_eq_true rfl, Nat.le_of_ble_eq_true rfl⟩ rfl rfl (Nat.le_of_ble_eq_true rfl) ⟨Nat.le_of_ble_eq_true rfl, Nat.le_of_ble_eq_true rfl⟩ dX6_placeIn_11 (fun E u hp => ?_) (fun z1 u2 z1r hp3 => ?_)
  · skip
    exact VX_out X hno (hp) (by decide) (by decide)
  · skip
    obtain ⟨g1, g2, g3, g4⟩ := hp3
    refine V_callV_I X (na := 2) (ci := 4) (b0 := 67) (by decide) (rfl) (by decide) rfl (m_X4_lapsAhead g l hl9 u2 g4.1.2.2 n (g4.1.LB hLB) z1 z1r) gX6_placeIn_X4_lapsAhead rfl rfl rfl (by decide +kernel) ⟨Nat.le_of_ble_eq_true rfl, Nat.le_of_ble_eq_true rfl⟩ rfl rfl (Nat.le_of_ble_eq_true rfl) ⟨Nat.le_of_ble_eq_true rfl, Nat.le_of_ble_eq_true rfl⟩ dX6_placeIn_14 (fun z4 u5 z4r hp6 => ?_)
    obtain ⟨hz, hu7⟩ := hp6
    have hu7 := hu7.symm
    subst hu7
    have e9 : z4 = plF σ n r.toNat d.toNat := by rw [hz, g3]; unfold plF; rw [show ((r.toNat : Nat) : Int) = r by omega]; exact sumF_congr 6 (fun o ho => by rw [g4.2.2 o ho]; exact ahI_congr (g4.1.cnt hLB.2.1))
    have hb9 := sumF_b (f := fun o => ahI (cntC σ) n (lapF σ n r.toNat o n) (lapF σ n r.toNat d.toNat n)) (c := 1) (fun l => ahI_b) 6
    have e8 : 0 ≤ plF σ n r.toNat d.toNat ∧ plF σ n r.toNat d.toNat ≤ 6 := by unfold plF; omega
    refine V_iconst X dX6_placeIn_17 ?_
    refine V_iadd X dX6_placeIn_18 ?_
    exact V_iretX X hr rfl ⟨by omega, by omega⟩ (by exact ⟨g1, g2, by omega, g4.1⟩) dX6_placeIn_19 (by decide) (by decide)
set_option maxRecDepth 100000 in
set_option maxHeartbeats 4000000 in
theorem m_X6_points (g : Geo) (l : Launch) (hl9 : l.stackTraces = false) (σ : St) (hR : RG σ) (d : Int) (hd0 : R32 d) (n : Nat) (hLB : LB σ n) (R D : Nat) (hRr : σ.1 67 1 = (R : Int)) (hR10 : R ≤ 10) (hDd : σ.1 67 3 = (D : Int)) : vx_Met l yX6_points wsX6_points ({ frames := 7, cells := 1, slots := 6, locals := 117 }) (va_Pc [.ref (ga g (0)), .int (iN (d))] (World g σ)) (QI g (fun z u => (0 ≤ d ∧ d < 6) ∧ z = ptsF σ n R D d.toNat ∧ FrS σ u)) (XT g (fun E u => E = "java/lang/IndexOutOfBoundsException" ∧ ¬ (0 ≤ d ∧ d < 6) ∧ FrS σ u)) 1 6 (gA g) := by
  refine V_metX hl9 (by decide) rfl (Nat.le_of_ble_eq_true rfl) ?_
  intro p9 e9 s9 m9 b9 t9 c9 X hno hr
  refine V_lv (lv' := [(0, .ref (ga g (0))), (1, .int (iN (d)))]) rfl ?_
  refine V_aload_n X 0 rfl dX6_points_0 rfl ?_
  refine V_iload_n X 1 rfl dX6_points_1 rfl ?_
  refine V_callV_Vx X (na := 1) (ci := 6) (b0 := 0) (by decide) (rfl) (by decide) rfl (m_X6_requireDriver g l hl9 σ hR d hd0) gX6_points_X6_requireDriver rfl rfl rfl (by decide +kernel) ⟨Nat.le_of_ble_eq_true rfl, Nat.le_of_ble_eq_true rfl⟩ rfl rfl (Nat.le_of_ble_eq_true rfl) ⟨Nat.le_of_ble_eq_true rfl, Nat.le_of_ble_eq_true rfl⟩ dX6_points_2 (fun E u hp => ?_) (fun u2 hp3 => ?_)
  · skip
    exact VX_out X hno (⟨hp.1, hp.2.1, FrS.eq hR hp.2.2⟩) (by decide) (by decide)
  · skip
    obtain ⟨hd1, hd2, hu4⟩ := hp3
    have hu4 := hu4.symm
    subst hu4
    refine V_aload_n X 0 rfl dX6_points_5 rfl ?_
    refine V_get X (ci := 6) (0) (by decide) (rfl) (by decide) rfl (fun _ h => List.mem_cons_of_mem _ (List.mem_append_left _ (List.mem_append_left _ (List.mem_append_left _ (List.mem_append_left _ (List.mem_append_right _ h)))))) 8 (by decide) (List.mem_of_getElem? (i := 1) rfl) rfl rfl dX6_points_6 ?_
    refine V_aload_n X 0 rfl dX6_points_9 rfl ?_
    refine V_get X (ci := 6) (0) (by decide) (rfl) (by decide) rfl (fun _ h => List.mem_cons_of_mem _ (List.mem_append_left _ (List.mem_append_left _ (List.mem_append_left _ (List.mem_append_left _ (List.mem_append_right _ h)))))) 7 (by decide) (List.mem_of_getElem? (i := 2) rfl) rfl rfl dX6_points_10 ?_
    refine V_callV_V X (na := 1) (ci := 4) (b0 := 67) (by decide) (rfl) (by decide) rfl (m_X4_reckon g l hl9 σ hR n R D hLB hRr hR10 hDd) gX6_points_X4_reckon rfl rfl rfl (by decide +kernel) ⟨Nat.le_of_ble_eq_true rfl, Nat.le_of_ble_eq_true rfl⟩ rfl rfl (Nat.le_of_ble_eq_true rfl) ⟨Nat.le_of_ble_eq_true rfl, Nat.le_of_ble_eq_true rfl⟩ dX6_points_13 (fun u6 hp7 => ?_)
    have hf := hp7
    refine V_aload_n X 0 rfl dX6_points_16 rfl ?_
    refine V_get X (ci := 6) (0) (by decide) (rfl) (by decide) rfl (fun _ h => List.mem_cons_of_mem _ (List.mem_append_left _ (List.mem_append_left _ (List.mem_append_left _ (List.mem_append_left _ (List.mem_append_right _ h)))))) 8 (by decide) (List.mem_of_getElem? (i := 1) rfl) rfl rfl dX6_points_17 ?_
    refine V_get X (ci := 4) (67) (by decide) (rfl) (by decide) rfl (fun _ h => List.mem_cons_of_mem _ (List.mem_append_left _ (List.mem_append_left _ (List.mem_append_left _ (List.mem_append_right _ h))))) 6 (by decide) (List.mem_of_getElem? (i := 3) rfl) rfl rfl dX6_points_20 ?_
    refine V_iload_n X 1 rfl dX6_points_23 rfl ?_
    refine V_iald X (N := 6) (71) (by decide) (rfl) (rfl) (by decide) (d.toNat) (by omega) (by omega) dX6_points_24 ?_
    exact V_iretX X hr rfl (hf.1.2.2 _ _) (by exact ⟨⟨hd1, hd2⟩, (hf.2 d.toNat (by omega)).1, hf.1⟩) dX6_points_25 (by decide) (by decide)
set_option maxRecDepth 100000 in
set_option maxHeartbeats 4000000 in
theorem m_X6_wins (g : Geo) (l : Launch) (hl9 : l.stackTraces = false) (σ : St) (hR : RG σ) (d : Int) (hd0 : R32 d) (n : Nat) (hLB : LB σ n) (R D : Nat) (hRr : σ.1 67 1 = (R : Int)) (hR10 : R ≤ 10) (hDd : σ.1 67 3 = (D : Int)) : vx_Met l yX6_wins wsX6_wins ({ frames := 7, cells := 1, slots := 6, locals := 117 }) (va_Pc [.ref (ga g (0)), .int (iN (d))] (World g σ)) (QI g (fun z u => (0 ≤ d ∧ d < 6) ∧ z = wonF σ n R d.toNat ∧ FrS σ u)) (XT g (fun E u => E = "java/lang/IndexOutOfBoundsException" ∧ ¬ (0 ≤ d ∧ d < 6) ∧ FrS σ u)) 1 6 (gA g) := by
  refine V_metX hl9 (by decide) rfl (Nat.le_of_ble_eq_true rfl) ?_
  intro p9 e9 s9 m9 b9 t9 c9 X hno hr
  refine V_lv (lv' := [(0, .ref (ga g (0))), (1, .int (iN (d)))]) rfl ?_
  refine V_aload_n X 0 rfl dX6_wins_0 rfl ?_
  refine V_iload_n X 1 rfl dX6_wins_1 rfl ?_
  refine V_callV_Vx X (na := 1) (ci := 6) (b0 := 0) (by decide) (rfl) (by decide) rfl (m_X6_requireDriver g l hl9 σ hR d hd0) gX6_wins_X6_requireDriver rfl rfl rfl (by decide +kernel) ⟨Nat.le_of_ble_eq_true rfl, Nat.le_of_ble_eq_true rfl⟩ rfl rfl (Nat.le_of_ble_eq_true rfl) ⟨Nat.le_of_ble_eq_true rfl, Nat.le_of_ble_eq_true rfl⟩ dX6_wins_2 (fun E u hp => ?_) (fun u2 hp3 => ?_)
  · skip
    exact VX_out X hno (⟨hp.1, hp.2.1, FrS.eq hR hp.2.2⟩) (by decide) (by decide)
  · skip
    obtain ⟨hd1, hd2, hu4⟩ := hp3
    have hu4 := hu4.symm
    subst hu4
    refine V_aload_n X 0 rfl dX6_wins_5 rfl ?_
    refine V_get X (ci := 6) (0) (by decide) (rfl) (by decide) rfl (fun _ h => List.mem_cons_of_mem _ (List.mem_append_left _ (List.mem_append_left _ (List.mem_append_left _ (List.mem_append_left _ (List.mem_append_right _ h)))))) 8 (by decide) (List.mem_of_getElem? (i := 1) rfl) rfl rfl dX6_wins_6 ?_
    refine V_aload_n X 0 rfl dX6_wins_9 rfl ?_
    refine V_get X (ci := 6) (0) (by decide) (rfl) (by decide) rfl (fun _ h => List.mem_cons_of_mem _ (List.mem_append_left _ (List.mem_append_left _ (List.mem_append_left _ (List.mem_append_left _ (List.mem_append_right _ h)))))) 7 (by decide) (List.mem_of_getElem? (i := 2) rfl) rfl rfl dX6_wins_10 ?_
    refine V_callV_V X (na := 1) (ci := 4) (b0 := 67) (by decide) (rfl) (by decide) rfl (m_X4_reckon g l hl9 σ hR n R D hLB hRr hR10 hDd) gX6_wins_X4_reckon rfl rfl rfl (by decide +kernel) ⟨Nat.le_of_ble_eq_true rfl, Nat.le_of_ble_eq_true rfl⟩ rfl rfl (Nat.le_of_ble_eq_true rfl) ⟨Nat.le_of_ble_eq_true rfl, Nat.le_of_ble_eq_true rfl⟩ dX6_wins_13 (fun u6 hp7 => ?_)
    have hf := hp7
    refine V_aload_n X 0 rfl dX6_wins_16 rfl ?_
    refine V_get X (ci := 6) (0) (by decide) (rfl) (by decide) rfl (fun _ h => List.mem_cons_of_mem _ (List.mem_append_left _ (List.mem_append_left _ (List.mem_append_left _ (List.mem_append_left _ (List.mem_append_right _ h)))))) 8 (by decide) (List.mem_of_getElem? (i := 1) rfl) rfl rfl dX6_wins_17 ?_
    refine V_get X (ci := 4) (67) (by decide) (rfl) (by decide) rfl (fun _ h => List.mem_cons_of_mem _ (List.mem_append_left _ (List.mem_append_left _ (List.mem_append_left _ (List.mem_append_right _ h))))) 7 (by decide) (List.mem_of_getElem? (i := 3) rfl) rfl rfl dX6_wins_20 ?_
    refine V_iload_n X 1 rfl dX6_wins_23 rfl ?_
    refine V_iald X (N := 6) (72) (by decide) (rfl) (rfl) (by decide) (d.toNat) (by omega) (by omega) dX6_wins_24 ?_
    exact V_iretX X hr rfl (hf.1.2.2 _ _) (by exact ⟨⟨hd1, hd2⟩, (hf.2 d.toNat (by omega)).2, hf.1⟩) dX6_wins_25 (by decide) (by decide)
theorem atm_X6_standing_293 : ∀ w ∈ vx_atS RX6 293 "java/lang/IndexOutOfBoundsException" ["java/lang/RuntimeException", "java/lang/Exception"], goodWord w = true → w ∈ wsX6_standing := fun w h0 hg0 => by
  have h := List.mem_filter.mpr ⟨h0, hg0⟩
  exact List.mem_cons_of_mem _ (List.mem_append_right _ h)
set_option maxRecDepth 100000 in
set_option maxHeartbeats 4000000 in
theorem m_X6_standing (g : Geo) (l : Launch) (hl9 : l.stackTraces = false) (σ : St) (hR : RG σ) (d : Int) (hd0 : R32 d) (n : Nat) (hLB : LB σ n) (R D : Nat) (hRr : σ.1 67 1 = (R : Int)) (hR10 : R ≤ 10) (hDd : σ.1 67 3 = (D : Int)) : vx_Met l yX6_standing wsX6_standing ({ frames := 6, cells := 1, slots := 6, locals := 117 }) (va_Pc [.ref (ga g (0)), .int (iN (d))] (World g σ)) (QI g (fun z u => (0 ≤ d ∧ d < 6) ∧ z = dbF (fun d => ptsF σ n R D d) (fun d => wonF σ n R d) d 6 ∧ FrS σ u)) (XT g (fun E u => E = "java/lang/IndexOutOfBoundsException" ∧ ¬ (0 ≤ d ∧ d < 6) ∧ FrS σ u)) 1 6 (gA g) := by
  refine V_metX hl9 (by decide) rfl (Nat.le_of_ble_eq_true rfl) ?_
  intro p9 e9 s9 m9 b9 t9 c9 X hno hr
  refine V_lv (lv' := [(0, .ref (ga g (0))), (1, .int (iN (d)))]) rfl ?_
  refine V_iload_n X 1 rfl dX6_standing_0 rfl ?_
  refine V_if_lt X 10 hd0 dX6_standing_1 (by decide) (fun q1 => ?_) (fun q1 => ?_)
  · skip
    exact V_throw X hno rfl (List.mem_of_getElem? (i := 6) rfl) (by decide) (List.mem_of_getElem? (i := 1) rfl) (List.mem_of_getElem? (i := 2) rfl) (atm_X6_standing_293) gb_X6_293 (List.mem_of_getElem? (i := 2) rfl) (gd_X6_293) dX6_standing_10 dX6_standing_13 dX6_standing_14 dX6_standing_16 dX6_standing_19 (Nat.le_of_ble_eq_true rfl) (Nat.le_of_ble_eq_true rfl) (Nat.le_of_ble_eq_true rfl) (Nat.le_of_ble_eq_true rfl) (by decide) (by decide) (⟨rfl, by omega, FrS.rf hR⟩)
  · skip
    refine V_iload_n X 1 rfl dX6_standing_4 rfl ?_
    refine V_bipush X (by decide) dX6_standing_5 ?_
    refine V_icmp_lt X 20 hd0 ⟨by decide, by decide⟩ dX6_standing_7 (by decide) (fun q2 => ?_) (fun q2 => ?_)
    · skip
      refine V_aload_n X 0 rfl dX6_standing_20 rfl ?_
      refine V_get X (ci := 6) (0) (by decide) (rfl) (by decide) rfl (fun _ h => List.mem_cons_of_mem _ (List.mem_append_left _ (List.mem_append_left _ (List.mem_append_left _ (List.mem_append_left _ (List.mem_append_right _ h)))))) 8 (by decide) (List.mem_of_getElem? (i := 3) rfl) rfl rfl dX6_standing_21 ?_
      refine V_aload_n X 0 rfl dX6_standing_24 rfl ?_
      refine V_get X (ci := 6) (0) (by decide) (rfl) (by decide) rfl (fun _ h => List.mem_cons_of_mem _ (List.mem_append_left _ (List.mem_append_left _ (List.mem_append_left _ (List.mem_append_left _ (List.mem_append_right _ h)))))) 7 (by decide) (List.mem_of_getElem? (i := 4) rfl) rfl rfl dX6_standing_25 ?_
      refine V_callV_V X (na := 1) (ci := 4) (b0 := 67) (by decide) (rfl) (by decide) rfl (m_X4_reckon g l hl9 σ hR n R D hLB hRr hR10 hDd) gX6_standing_X4_reckon rfl rfl rfl (by decide +kernel) ⟨Nat.le_of_ble_eq_true rfl, Nat.le_of_ble_eq_true rfl⟩ rfl rfl (Nat.le_of_ble_eq_true rfl) ⟨Nat.le_of_ble_eq_true rfl, Nat.le_of_ble_eq_true rfl⟩ dX6_standing_28 (fun u4 hp5 => ?_)
      have hf := hp5
      refine V_aload_n X 0 rfl dX6_standing_31 rfl ?_
      refine V_get X (ci := 6) (0) (by decide) (rfl) (by decide) rfl (fun _ h => List.mem_cons_of_mem _ (List.mem_append_left _ (List.mem_append_left _ (List.mem_append_left _ (List.mem_append_left _ (List.mem_append_right _ h)))))) 8 (by decide) (List.mem_of_getElem? (i := 3) rfl) rfl rfl dX6_standing_32 ?_
      refine V_iload_n X 1 rfl dX6_standing_35 rfl ?_
      refine V_callV_I X (na := 1) (ci := 4) (b0 := 67) (by decide) (rfl) (by decide) rfl (m_X4_driverBehind g l hl9 u4 hf.1.2.2 d hd0) gX6_standing_X4_driverBehind rfl rfl rfl (by decide +kernel) ⟨Nat.le_of_ble_eq_true rfl, Nat.le_of_ble_eq_true rfl⟩ rfl rfl (Nat.le_of_ble_eq_true rfl) ⟨Nat.le_of_ble_eq_true rfl, Nat.le_of_ble_eq_true rfl⟩ dX6_standing_36 (fun z6 u7 z6r hp8 => ?_)
      obtain ⟨hz, hu9⟩ := hp8
      have hu9 := hu9.symm
      subst hu9
      exact V_iretX X hr rfl z6r (by exact ⟨⟨by omega, by omega⟩, by rw [hz]; exact dbF_congr hf.2 6 (Nat.le_refl 6), hf.1⟩) dX6_standing_39 (by decide) (by decide)
    · skip
      exact V_throw X hno rfl (List.mem_of_getElem? (i := 6) rfl) (by decide) (List.mem_of_getElem? (i := 1) rfl) (List.mem_of_getElem? (i := 2) rfl) (atm_X6_standing_293) gb_X6_293 (List.mem_of_getElem? (i := 2) rfl) (gd_X6_293) dX6_standing_10 dX6_standing_13 dX6_standing_14 dX6_standing_16 dX6_standing_19 (Nat.le_of_ble_eq_true rfl) (Nat.le_of_ble_eq_true rfl) (Nat.le_of_ble_eq_true rfl) (Nat.le_of_ble_eq_true rfl) (by decide) (by decide) (⟨rfl, by omega, FrS.rf hR⟩)
theorem atm_X6_of_71 : ∀ w ∈ vx_atS RX6 71 "java/lang/IllegalArgumentException" ["java/lang/RuntimeException", "java/lang/Exception"], goodWord w = true → w ∈ wsX6_of := fun w h0 hg0 => by
  have h := List.mem_filter.mpr ⟨h0, hg0⟩
  exact List.mem_cons_of_mem _ (List.mem_append_left _ (List.mem_append_right _ h))
set_option maxRecDepth 100000 in
set_option maxHeartbeats 4000000 in
theorem m_X6_of (g : Geo) (l : Launch) (hl9 : l.stackTraces = false) (σ : St) (hR : RG σ) (a w : Int) (ha : R32 a) (hw : R32 w) (hn30 : σ.1 5 1 ≤ 30) : vx_Met l yX6_of wsX6_of ({ frames := 7, cells := 2, slots := 12, locals := 111 }) (va_Pc [.ref (ga g (0)), .int (iN (a)), .int (iN (w))] (World g σ)) (QI g (fun z u => (0 ≤ a ∧ a < σ.1 5 1) ∧ ofV w ∧ z = σ.1 (7 + 2 * a.toNat) (ofS w) ∧ u = σ)) (XT g (fun E u => ((E = "java/lang/IndexOutOfBoundsException" ∧ ¬ (0 ≤ a ∧ a < σ.1 5 1)) ∨ (E = "java/lang/IllegalArgumentException" ∧ (0 ≤ a ∧ a < σ.1 5 1) ∧ ¬ ofV w)) ∧ u = σ)) 2 12 (gA g) := by
  refine V_metX hl9 (by decide) rfl (Nat.le_of_ble_eq_true rfl) ?_
  intro p9 e9 s9 m9 b9 t9 c9 X hno hr
  refine V_lv (lv' := [(0, .ref (ga g (0))), (1, .int (iN (a))), (2, .int (iN (w)))]) rfl ?_
  refine V_aload_n X 0 rfl dX6_of_0 rfl ?_
  refine V_iload_n X 1 rfl dX6_of_1 rfl ?_
  refine V_callV_Rx X (na := 1) (ci := 6) (b0 := 0) (by decide) (rfl) (by decide) rfl (m_X6_lapNumbered g l hl9 σ hR a ha hn30) gX6_of_X6_lapNumbered rfl rfl rfl (by decide +kernel) ⟨Nat.le_of_ble_eq_true rfl, Nat.le_of_ble_eq_true rfl⟩ rfl rfl (Nat.le_of_ble_eq_true rfl) ⟨Nat.le_of_ble_eq_true rfl, Nat.le_of_ble_eq_true rfl⟩ dX6_of_2 (fun E u hp => ?_) (fun z1 u2 hp3 => ?_)
  · skip
    exact VX_out X hno (⟨Or.inl ⟨hp.1, hp.2.1⟩, hp.2.2⟩) (by decide) (by decide)
  · skip
    obtain ⟨h1, h2, hb, hu4⟩ := hp3
    have hu4 := hu4.symm
    subst hu4
    subst hb
    refine V_astore_n X [(3, .ref (ga g (7 + 2 * (a).toNat))), (0, .ref (ga g (0))), (1, .int (iN (a))), (2, .int (iN (w)))] dX6_of_5 rfl (by decide) rfl ?_
    refine V_iload_n X 3 rfl dX6_of_6 rfl ?_
    rcases Classical.em (w = 100) with hq100 | hq100
    · skip
      subst hq100
      refine V_lookup X 56 ⟨by decide, by decide⟩ dX6_of_7 (by decide) (off := 49) (by decide) (by decide) ?_
      refine V_aload_n X 0 rfl dX6_of_56 rfl ?_
      refine V_get X (ci := 2) (7 + 2 * (a).toNat) (by omega) (kd_lap (by omega)) (by decide) rfl (fun _ h => List.mem_cons_of_mem _ (List.mem_append_left _ (List.mem_append_left _ (List.mem_append_left _ (List.mem_append_left _ (List.mem_append_right _ h)))))) 3 (by decide) (List.mem_of_getElem? (i := 3) rfl) rfl rfl dX6_of_57 ?_
      exact V_iretX X hr rfl (hR _ _) (by exact ⟨⟨h1, h2⟩, by unfold ofV; omega, rfl, rfl⟩) dX6_of_60 (by decide) (by decide)
    · skip
      rcases Classical.em (w = 116) with hq116 | hq116
      · skip
        subst hq116
        refine V_lookup X 61 ⟨by decide, by decide⟩ dX6_of_7 (by decide) (off := 54) (by decide) (by decide) ?_
        refine V_aload_n X 0 rfl dX6_of_61 rfl ?_
        refine V_get X (ci := 2) (7 + 2 * (a).toNat) (by omega) (kd_lap (by omega)) (by decide) rfl (fun _ h => List.mem_cons_of_mem _ (List.mem_append_left _ (List.mem_append_left _ (List.mem_append_left _ (List.mem_append_left _ (List.mem_append_right _ h)))))) 4 (by decide) (List.mem_of_getElem? (i := 4) rfl) rfl rfl dX6_of_62 ?_
        exact V_iretX X hr rfl (hR _ _) (by exact ⟨⟨h1, h2⟩, by unfold ofV; omega, rfl, rfl⟩) dX6_of_65 (by decide) (by decide)
      · skip
        rcases Classical.em (w = 99) with hq99 | hq99
        · skip
          subst hq99
          refine V_lookup X 66 ⟨by decide, by decide⟩ dX6_of_7 (by decide) (off := 59) (by decide) (by decide) ?_
          refine V_aload_n X 0 rfl dX6_of_66 rfl ?_
          refine V_get X (ci := 2) (7 + 2 * (a).toNat) (by omega) (kd_lap (by omega)) (by decide) rfl (fun _ h => List.mem_cons_of_mem _ (List.mem_append_left _ (List.mem_append_left _ (List.mem_append_left _ (List.mem_append_left _ (List.mem_append_right _ h)))))) 5 (by decide) (List.mem_of_getElem? (i := 5) rfl) rfl rfl dX6_of_67 ?_
          exact V_iretX X hr rfl (hR _ _) (by exact ⟨⟨h1, h2⟩, by unfold ofV; omega, rfl, rfl⟩) dX6_of_70 (by decide) (by decide)
        · skip
          rcases Classical.em (w = 103) with hq103 | hq103
          · skip
            subst hq103
            refine V_lookup X 71 ⟨by decide, by decide⟩ dX6_of_7 (by decide) (off := 64) (by decide) (by decide) ?_
            refine V_aload_n X 0 rfl dX6_of_71 rfl ?_
            refine V_get X (ci := 2) (7 + 2 * (a).toNat) (by omega) (kd_lap (by omega)) (by decide) rfl (fun _ h => List.mem_cons_of_mem _ (List.mem_append_left _ (List.mem_append_left _ (List.mem_append_left _ (List.mem_append_left _ (List.mem_append_right _ h)))))) 6 (by decide) (List.mem_of_getElem? (i := 6) rfl) rfl rfl dX6_of_72 ?_
            exact V_iretX X hr rfl (hR _ _) (by exact ⟨⟨h1, h2⟩, by unfold ofV; omega, rfl, rfl⟩) dX6_of_75 (by decide) (by decide)
          · skip
            rcases Classical.em (w = 114) with hq114 | hq114
            · skip
              subst hq114
              refine V_lookup X 76 ⟨by decide, by decide⟩ dX6_of_7 (by decide) (off := 69) (by decide) (by decide) ?_
              refine V_aload_n X 0 rfl dX6_of_76 rfl ?_
              refine V_get X (ci := 2) (7 + 2 * (a).toNat) (by omega) (kd_lap (by omega)) (by decide) rfl (fun _ h => List.mem_cons_of_mem _ (List.mem_append_left _ (List.mem_append_left _ (List.mem_append_left _ (List.mem_append_left _ (List.mem_append_right _ h)))))) 7 (by decide) (List.mem_of_getElem? (i := 7) rfl) rfl rfl dX6_of_77 ?_
              exact V_iretX X hr rfl (hR _ _) (by exact ⟨⟨h1, h2⟩, by unfold ofV; omega, rfl, rfl⟩) dX6_of_80 (by decide) (by decide)
            · skip
              refine V_lookup X 81 hw dX6_of_7 (by decide) (off := 74) (by simp only [Op.lookupswitch.offset_cons, Op.lookupswitch.offset_nil]; rw [if_neg (by omega), if_neg (by omega), if_neg (by omega), if_neg (by omega), if_neg (by omega)]) (by decide) ?_
              exact V_throw X hno rfl (List.mem_of_getElem? (i := 15) rfl) (by decide) (List.mem_of_getElem? (i := 1) rfl) (List.mem_of_getElem? (i := 2) rfl) (atm_X6_of_71) gb_X6_71 (List.mem_of_getElem? (i := 1) rfl) (gd_X6_71) dX6_of_81 dX6_of_84 dX6_of_85 dX6_of_87 dX6_of_90 (Nat.le_of_ble_eq_true rfl) (Nat.le_of_ble_eq_true rfl) (Nat.le_of_ble_eq_true rfl) (Nat.le_of_ble_eq_true rfl) (by decide) (by decide) (⟨Or.inr ⟨rfl, ⟨h1, h2⟩, by unfold ofV; omega⟩, rfl⟩)
set_option maxRecDepth 100000 in
set_option maxHeartbeats 4000000 in
theorem m_X6_checksum (g : Geo) (l : Launch) (hl9 : l.stackTraces = false) (σ : St) (hR : RG σ) (n : Nat) (hn : σ.1 5 1 = (n : Int)) (hn30 : n ≤ 30) : Met l yX6_checksum wsX6_checksum ({ frames := 0, cells := 0, slots := 0, locals := 0 }) (va_Pc [.ref (ga g (0))] (World g σ)) (QL g (fun z u => z = ckF σ n ∧ u = σ)) 0 0 (gA g) := by
  refine V_met hl9 (by decide) rfl (Nat.le_of_ble_eq_true rfl) ?_
  intro p9 e9 s9 m9 b9 t9 c9 X hr _
  refine V_lv (lv' := [(0, .ref (ga g (0)))]) rfl ?_
  refine V_ldc2 X (List.mem_of_getElem? (i := 1) rfl) (z := 7) (by decide) dX6_checksum_0 ?_
  refine V_lstore_n X [(1, .long (lI (7))), (0, .ref (ga g (0)))] dX6_checksum_3 rfl (by decide) rfl ?_
  refine V_iconst X dX6_checksum_4 ?_
  refine V_istore_n X [(3, .int (iN (0))), (1, .long (lI (7))), (0, .ref (ga g (0)))] dX6_checksum_5 rfl (by decide) rfl ?_
  refine V_sub (lv' := [(0, .ref (ga g (0))), (1, .long (lI (7))), (3, .int (iN (0)))]) [2, 1, 0] rfl ?_
  refine V_up (N := n) (fun (i : Nat) (u : St) (lw : List (Nat × Value)) => σ = u ∧ [(0, .ref (ga g (0))), (1, .long (lI (ckF σ i))), (3, .int (iN (((i : Nat) : Int))))] = lw ∧ (True)) (i0 := 0) (Nat.zero_le _) ⟨rfl, rfl, trivial⟩ ?_ ?_
  · skip
    rintro _ _ ⟨rfl, rfl, -⟩
    refine V_iload_n X 2 rfl dX6_checksum_6 rfl ?_
    refine V_aload_n X 0 rfl dX6_checksum_7 rfl ?_
    refine V_get X (ci := 6) (0) (by decide) (rfl) (by decide) rfl (fun _ h => List.mem_cons_of_mem _ (List.mem_append_left _ (List.mem_append_left _ (List.mem_append_right _ h)))) 7 (by decide) (List.mem_of_getElem? (i := 2) rfl) rfl rfl dX6_checksum_8 ?_
    refine V_get X (ci := 0) (5) (by decide) (rfl) (by decide) rfl (fun _ h => List.mem_cons_of_mem _ (List.mem_append_left _ (List.mem_append_right _ h))) 1 (by decide) (List.mem_of_getElem? (i := 3) rfl) rfl rfl dX6_checksum_11 ?_
    refine V_icmp_ge X 76 ⟨by omega, by omega⟩ (hR _ _) dX6_checksum_14 (by decide) (fun _ => ?_) (fun h => absurd h (by omega))
    refine V_lload_n X 1 rfl dX6_checksum_76 rfl ?_
    exact V_lret X hr (by exact ⟨rfl, rfl⟩) dX6_checksum_77 (by decide) (by decide)
  · skip
    rintro i _ _ hiN ⟨rfl, rfl, -⟩ kk
    refine V_iload_n X 2 rfl dX6_checksum_6 rfl ?_
    refine V_aload_n X 0 rfl dX6_checksum_7 rfl ?_
    refine V_get X (ci := 6) (0) (by decide) (rfl) (by decide) rfl (fun _ h => List.mem_cons_of_mem _ (List.mem_append_left _ (List.mem_append_left _ (List.mem_append_right _ h)))) 7 (by decide) (List.mem_of_getElem? (i := 2) rfl) rfl rfl dX6_checksum_8 ?_
    refine V_get X (ci := 0) (5) (by decide) (rfl) (by decide) rfl (fun _ h => List.mem_cons_of_mem _ (List.mem_append_left _ (List.mem_append_right _ h))) 1 (by decide) (List.mem_of_getElem? (i := 3) rfl) rfl rfl dX6_checksum_11 ?_
    refine V_icmp_ge X 76 ⟨by omega, by omega⟩ (hR _ _) dX6_checksum_14 (by decide) (fun h => absurd h (by omega)) (fun _ => ?_)
    refine V_aload_n X 0 rfl dX6_checksum_17 rfl ?_
    refine V_get X (ci := 6) (0) (by decide) (rfl) (by decide) rfl (fun _ h => List.mem_cons_of_mem _ (List.mem_append_left _ (List.mem_append_left _ (List.mem_append_right _ h)))) 7 (by decide) (List.mem_of_getElem? (i := 2) rfl) rfl rfl dX6_checksum_18 ?_
    refine V_get X (ci := 0) (5) (by decide) (rfl) (by decide) rfl (fun _ h => List.mem_cons_of_mem _ (List.mem_append_left _ (List.mem_append_right _ h))) 0 (by decide) (List.mem_of_getElem? (i := 4) rfl) rfl rfl dX6_checksum_21 ?_
    refine V_iload_n X 2 rfl dX6_checksum_24 rfl ?_
    refine V_aald16 X (6) (by decide) (rfl) (i) (rfl) (by omega) dX6_checksum_25 ?_
    refine V_astore X [(4, .ref (ga g (7 + 2 * i))), (0, .ref (ga g (0))), (1, .long (lI (ckF σ i))), (3, .int (iN (((i : Nat) : Int))))] dX6_checksum_26 (by decide) rfl ?_
    refine V_ldc2 X (List.mem_of_getElem? (i := 5) rfl) (z := 31) (by decide) dX6_checksum_28 ?_
    refine V_lload_n X 2 rfl dX6_checksum_31 rfl ?_
    refine V_lmul X dX6_checksum_32 ?_
    refine V_aload X 0 rfl dX6_checksum_33 ?_
    refine V_get X (ci := 2) (7 + 2 * i) (by omega) (kd_lap (by omega)) (by decide) rfl (fun _ h => List.mem_cons_of_mem _ (List.mem_append_right _ h)) 2 (by decide) (List.mem_of_getElem? (i := 6) rfl) rfl rfl dX6_checksum_35 ?_
    refine V_i2l X (hR _ _) dX6_checksum_38 ?_
    refine V_ladd X dX6_checksum_39 ?_
    refine V_aload X 0 rfl dX6_checksum_40 ?_
    refine V_get X (ci := 2) (7 + 2 * i) (by omega) (kd_lap (by omega)) (by decide) rfl (fun _ h => List.mem_cons_of_mem _ (List.mem_append_right _ h)) 8 (by decide) (List.mem_of_getElem? (i := 7) rfl) rfl rfl dX6_checksum_42 ?_
    refine V_i2l X (hR _ _) dX6_checksum_45 ?_
    refine V_ladd X dX6_checksum_46 ?_
    refine V_aload X 0 rfl dX6_checksum_47 ?_
    refine V_get X (ci := 2) (7 + 2 * i) (by omega) (kd_lap (by omega)) (by decide) rfl (fun _ h => List.mem_cons_of_mem _ (List.mem_append_right _ h)) 12 (by decide) (List.mem_of_getElem? (i := 8) rfl) rfl rfl dX6_checksum_49 ?_
    refine V_i2l X (hR _ _) dX6_checksum_52 ?_
    refine V_ladd X dX6_checksum_53 ?_
    refine V_aload X 0 rfl dX6_checksum_54 ?_
    refine V_get X (ci := 2) (7 + 2 * i) (by omega) (kd_lap (by omega)) (by decide) rfl (fun _ h => List.mem_cons_of_mem _ (List.mem_append_right _ h)) 9 (by decide) (List.mem_of_getElem? (i := 9) rfl) rfl rfl dX6_checksum_56 ?_
    refine V_if_eq X 66 (hR _ _) dX6_checksum_59 (by decide) (fun q1 => ?_) (fun q1 => ?_)
    · skip
      refine V_iconst X dX6_checksum_66 ?_
      refine V_i2l X ⟨by decide, by decide⟩ dX6_checksum_67 ?_
      refine V_ladd X dX6_checksum_68 ?_
      refine V_lstore_n X [(1, .long (lI ((((((31) * (ckF σ i)) + (σ.1 (7 + 2 * i) (2))) + (σ.1 (7 + 2 * i) (8))) + (σ.1 (7 + 2 * i) (12))) + (0)))), (4, .ref (ga g (7 + 2 * i))), (0, .ref (ga g (0))), (3, .int (iN (((i : Nat) : Int))))] dX6_checksum_69 rfl (by decide) rfl ?_
      refine V_iinc X [(3, .int (iN (((i : Nat) : Int) + 1))), (1, .long (lI ((((((31) * (ckF σ i)) + (σ.1 (7 + 2 * i) (2))) + (σ.1 (7 + 2 * i) (8))) + (σ.1 (7 + 2 * i) (12))) + (0)))), (4, .ref (ga g (7 + 2 * i))), (0, .ref (ga g (0)))] 3 (((i : Nat) : Int) + 1) (rfl) rfl dX6_checksum_70 (by decide) rfl ?_
      refine V_goto X 6 dX6_checksum_73 (by decide) ?_
      refine V_sub (lv' := [(0, .ref (ga g (0))), (1, .long (lI ((((((31) * (ckF σ i)) + (σ.1 (7 + 2 * i) (2))) + (σ.1 (7 + 2 * i) (8))) + (σ.1 (7 + 2 * i) (12))) + (0)))), (3, .int (iN (((i : Nat) : Int) + 1)))]) [3, 1, 0] rfl ?_
      refine V_lv (congrArg (fun q : Int => ([(0, .ref (ga g (0))), (1, .long (lI q)), (3, .int (iN (((i : Nat) : Int) + 1)))] : List (Nat × Value))) (show (((((31) * (ckF σ i)) + (σ.1 (7 + 2 * i) (2))) + (σ.1 (7 + 2 * i) (8))) + (σ.1 (7 + 2 * i) (12))) + (0) = ckF σ (i + 1) from by show _ = ckF σ (i + 1); rw [ckF, if_pos (by omega)])) ?_
      refine V_lv (congrArg (fun q : Int => ([(0, .ref (ga g (0))), (1, .long (lI (ckF σ (i + 1)))), (3, .int (iN q))] : List (Nat × Value))) (show ((i : Nat) : Int) + 1 = (((i + 1) : Nat) : Int) from by omega)) ?_
      exact kk _ _ ⟨rfl, rfl, trivial⟩
    · skip
      refine V_iconst X dX6_checksum_62 ?_
      refine V_goto X 67 dX6_checksum_63 (by decide) ?_
      refine V_i2l X ⟨by decide, by decide⟩ dX6_checksum_67 ?_
      refine V_ladd X dX6_checksum_68 ?_
      refine V_lstore_n X [(1, .long (lI ((((((31) * (ckF σ i)) + (σ.1 (7 + 2 * i) (2))) + (σ.1 (7 + 2 * i) (8))) + (σ.1 (7 + 2 * i) (12))) + (1)))), (4, .ref (ga g (7 + 2 * i))), (0, .ref (ga g (0))), (3, .int (iN (((i : Nat) : Int))))] dX6_checksum_69 rfl (by decide) rfl ?_
      refine V_iinc X [(3, .int (iN (((i : Nat) : Int) + 1))), (1, .long (lI ((((((31) * (ckF σ i)) + (σ.1 (7 + 2 * i) (2))) + (σ.1 (7 + 2 * i) (8))) + (σ.1 (7 + 2 * i) (12))) + (1)))), (4, .ref (ga g (7 + 2 * i))), (0, .ref (ga g (0)))] 3 (((i : Nat) : Int) + 1) (rfl) rfl dX6_checksum_70 (by decide) rfl ?_
      refine V_goto X 6 dX6_checksum_73 (by decide) ?_
      refine V_sub (lv' := [(0, .ref (ga g (0))), (1, .long (lI ((((((31) * (ckF σ i)) + (σ.1 (7 + 2 * i) (2))) + (σ.1 (7 + 2 * i) (8))) + (σ.1 (7 + 2 * i) (12))) + (1)))), (3, .int (iN (((i : Nat) : Int) + 1)))]) [3, 1, 0] rfl ?_
      refine V_lv (congrArg (fun q : Int => ([(0, .ref (ga g (0))), (1, .long (lI q)), (3, .int (iN (((i : Nat) : Int) + 1)))] : List (Nat × Value))) (show (((((31) * (ckF σ i)) + (σ.1 (7 + 2 * i) (2))) + (σ.1 (7 + 2 * i) (8))) + (σ.1 (7 + 2 * i) (12))) + (1) = ckF σ (i + 1) from by show _ = ckF σ (i + 1); rw [ckF, if_neg (by omega)])) ?_
      refine V_lv (congrArg (fun q : Int => ([(0, .ref (ga g (0))), (1, .long (lI (ckF σ (i + 1)))), (3, .int (iN q))] : List (Nat × Value))) (show ((i : Nat) : Int) + 1 = (((i + 1) : Nat) : Int) from by omega)) ?_
      exact kk _ _ ⟨rfl, rfl, trivial⟩
theorem atm_X6_shareStored_113 : ∀ w ∈ vx_atN RX6 113 "java/util/NoSuchElementException" ["java/lang/RuntimeException", "java/lang/Exception"], goodWord w = true → w ∈ wsX6_shareStored := fun w h0 hg0 => by
  have h := List.mem_filter.mpr ⟨h0, hg0⟩
  exact List.mem_cons_of_mem _ (List.mem_append_right _ h)
set_option maxRecDepth 100000 in
set_option maxHeartbeats 4000000 in
theorem m_X6_shareStored (g : Geo) (l : Launch) (hl9 : l.stackTraces = false) (σ : St) (hR : RG σ) (n : Nat) (hn : σ.1 5 1 = (n : Int)) (hn30 : n ≤ 30) (hk : ∀ l, l < n → 0 ≤ σ.1 (7 + 2 * l) 1 ∧ σ.1 (7 + 2 * l) 1 ≤ 60) (hsb : -2147483648 ≤ sumF (fun l => σ.1 (7 + 2 * l) 12) n) (hsc : sumF (fun l => σ.1 (7 + 2 * l) 12) n ≤ 2147483647) : vx_Met l yX6_shareStored wsX6_shareStored ({ frames := 6, cells := 1, slots := 6, locals := 90 }) (va_Pc [.ref (ga g (0))] (World g σ)) (QF g (fun z u => ¬ sumF (fun l => σ.1 (7 + 2 * l) 1) n = 0 ∧ z = FP.fdiv (FP.i2f (iN (sumF (fun l => σ.1 (7 + 2 * l) 12) n))) (FP.i2f (iN (sumF (fun l => σ.1 (7 + 2 * l) 1) n))) ∧ u = σ)) (XT g (fun E u => E = "java/util/NoSuchElementException" ∧ sumF (fun l => σ.1 (7 + 2 * l) 1) n = 0 ∧ u = σ)) 1 6 (gA g) := by
  refine V_metX hl9 (by decide) rfl (Nat.le_of_ble_eq_true rfl) ?_
  intro p9 e9 s9 m9 b9 t9 c9 X hno hr
  refine V_lv (lv' := [(0, .ref (ga g (0)))]) rfl ?_
  refine V_iconst X dX6_shareStored_0 ?_
  refine V_istore_n X [(1, .int (iN (0))), (0, .ref (ga g (0)))] dX6_shareStored_1 rfl (by decide) rfl ?_
  refine V_iconst X dX6_shareStored_2 ?_
  refine V_istore_n X [(2, .int (iN (0))), (1, .int (iN (0))), (0, .ref (ga g (0)))] dX6_shareStored_3 rfl (by decide) rfl ?_
  refine V_sub (lv' := [(0, .ref (ga g (0))), (1, .int (iN (0))), (2, .int (iN (0)))]) [2, 1, 0] rfl ?_
  refine V_up (N := n) (fun (i : Nat) (u : St) (lw : List (Nat × Value)) => σ = u ∧ [(0, .ref (ga g (0))), (1, .int (iN (sumF (fun l => σ.1 (7 + 2 * l) 1) i))), (2, .int (iN (((i : Nat) : Int))))] = lw ∧ (0 ≤ sumF (fun l => σ.1 (7 + 2 * l) 1) i ∧ sumF (fun l => σ.1 (7 + 2 * l) 1) i ≤ 60 * i)) (i0 := 0) (Nat.zero_le _) ⟨rfl, rfl, ⟨Int.le_refl 0, Int.le_refl 0⟩⟩ ?_ ?_
  · skip
    rintro _ _ ⟨rfl, rfl, hb⟩
    refine V_iload_n X 2 rfl dX6_shareStored_4 rfl ?_
    refine V_aload_n X 0 rfl dX6_shareStored_5 rfl ?_
    refine V_get X (ci := 6) (0) (by decide) (rfl) (by decide) rfl (fun _ h => List.mem_cons_of_mem _ (List.mem_append_left _ (List.mem_append_left _ (List.mem_append_left _ (List.mem_append_right _ h))))) 7 (by decide) (List.mem_of_getElem? (i := 3) rfl) rfl rfl dX6_shareStored_6 ?_
    refine V_get X (ci := 0) (5) (by decide) (rfl) (by decide) rfl (fun _ h => List.mem_cons_of_mem _ (List.mem_append_left _ (List.mem_append_left _ (List.mem_append_right _ h)))) 1 (by decide) (List.mem_of_getElem? (i := 4) rfl) rfl rfl dX6_shareStored_9 ?_
    refine V_icmp_ge X 36 ⟨by omega, by omega⟩ (hR _ _) dX6_shareStored_12 (by decide) (fun _ => ?_) (fun h => absurd h (by omega))
    refine V_iload_n X 1 rfl dX6_shareStored_36 rfl ?_
    refine V_if_ne X 51 ⟨by omega, by omega⟩ dX6_shareStored_37 (by decide) (fun q1 => ?_) (fun q1 => ?_)
    · skip
      refine V_aload_n X 0 rfl dX6_shareStored_51 rfl ?_
      refine V_callV_I X (na := 0) (ci := 6) (b0 := 0) (by decide) (rfl) (by decide) rfl (m_X6_stored g l hl9 σ hR n hn hn30 hsb hsc) gX6_shareStored_X6_stored rfl rfl rfl (by decide +kernel) ⟨Nat.le_of_ble_eq_true rfl, Nat.le_of_ble_eq_true rfl⟩ rfl rfl (Nat.le_of_ble_eq_true rfl) ⟨Nat.le_of_ble_eq_true rfl, Nat.le_of_ble_eq_true rfl⟩ dX6_shareStored_52 (fun z2 u3 z2r hp4 => ?_)
      obtain ⟨hz, hu5⟩ := hp4
      have hu5 := hu5.symm
      subst hu5
      subst hz
      refine V_i2f X dX6_shareStored_55 ?_
      refine V_iload_n X 1 rfl dX6_shareStored_56 rfl ?_
      refine V_i2f X dX6_shareStored_57 ?_
      refine V_fdiv X ((fp_fdivX (fp_i2f _) (by have e := fp_pos32 (sumF (fun l => σ.1 (7 + 2 * l) 1) n).toNat (by omega) (by omega); rw [show (((sumF (fun l => σ.1 (7 + 2 * l) 1) n).toNat : Nat) : Int) = sumF (fun l => σ.1 (7 + 2 * l) 1) n by omega] at e; exact e)).2) dX6_shareStored_58 ?_
      exact V_fretX X hr (by exact ⟨by omega, rfl, rfl⟩) dX6_shareStored_59 (by decide) (by decide)
    · skip
      exact V_throwNW X hno rfl (List.mem_of_getElem? (i := 27) rfl) (by decide) (List.mem_of_getElem? (i := 1) rfl) (List.mem_of_getElem? (i := 2) rfl) (atm_X6_shareStored_113) gb_X6_113 (List.mem_of_getElem? (i := 4) rfl) (gd_X6_113) dX6_shareStored_40 dX6_shareStored_43 dX6_shareStored_44 dX6_shareStored_47 dX6_shareStored_50 (Nat.le_of_ble_eq_true rfl) (Nat.le_of_ble_eq_true rfl) (Nat.le_of_ble_eq_true rfl) (Nat.le_of_ble_eq_true rfl) (by decide) (by decide) (⟨rfl, by omega, rfl⟩)
  · skip
    rintro i _ _ hiN ⟨rfl, rfl, hb⟩ kk
    refine V_iload_n X 2 rfl dX6_shareStored_4 rfl ?_
    refine V_aload_n X 0 rfl dX6_shareStored_5 rfl ?_
    refine V_get X (ci := 6) (0) (by decide) (rfl) (by decide) rfl (fun _ h => List.mem_cons_of_mem _ (List.mem_append_left _ (List.mem_append_left _ (List.mem_append_left _ (List.mem_append_right _ h))))) 7 (by decide) (List.mem_of_getElem? (i := 3) rfl) rfl rfl dX6_shareStored_6 ?_
    refine V_get X (ci := 0) (5) (by decide) (rfl) (by decide) rfl (fun _ h => List.mem_cons_of_mem _ (List.mem_append_left _ (List.mem_append_left _ (List.mem_append_right _ h)))) 1 (by decide) (List.mem_of_getElem? (i := 4) rfl) rfl rfl dX6_shareStored_9 ?_
    refine V_icmp_ge X 36 ⟨by omega, by omega⟩ (hR _ _) dX6_shareStored_12 (by decide) (fun h => absurd h (by omega)) (fun _ => ?_)
    refine V_iload_n X 1 rfl dX6_shareStored_15 rfl ?_
    refine V_aload_n X 0 rfl dX6_shareStored_16 rfl ?_
    refine V_get X (ci := 6) (0) (by decide) (rfl) (by decide) rfl (fun _ h => List.mem_cons_of_mem _ (List.mem_append_left _ (List.mem_append_left _ (List.mem_append_left _ (List.mem_append_right _ h))))) 7 (by decide) (List.mem_of_getElem? (i := 3) rfl) rfl rfl dX6_shareStored_17 ?_
    refine V_get X (ci := 0) (5) (by decide) (rfl) (by decide) rfl (fun _ h => List.mem_cons_of_mem _ (List.mem_append_left _ (List.mem_append_left _ (List.mem_append_right _ h)))) 0 (by decide) (List.mem_of_getElem? (i := 5) rfl) rfl rfl dX6_shareStored_20 ?_
    refine V_iload_n X 2 rfl dX6_shareStored_23 rfl ?_
    refine V_aald16 X (6) (by decide) (rfl) (i) (rfl) (by omega) dX6_shareStored_24 ?_
    refine V_get X (ci := 2) (7 + 2 * i) (by omega) (kd_lap (by omega)) (by decide) rfl (fun _ h => List.mem_cons_of_mem _ (List.mem_append_left _ (List.mem_append_right _ h))) 1 (by decide) (List.mem_of_getElem? (i := 6) rfl) rfl rfl dX6_shareStored_25 ?_
    refine V_iadd X dX6_shareStored_28 ?_
    refine V_istore_n X [(1, .int (iN ((sumF (fun l => σ.1 (7 + 2 * l) 1) i) + (σ.1 (7 + 2 * i) (1))))), (0, .ref (ga g (0))), (2, .int (iN (((i : Nat) : Int))))] dX6_shareStored_29 rfl (by decide) rfl ?_
    refine V_iinc X [(2, .int (iN (((i : Nat) : Int) + 1))), (1, .int (iN ((sumF (fun l => σ.1 (7 + 2 * l) 1) i) + (σ.1 (7 + 2 * i) (1))))), (0, .ref (ga g (0)))] 2 (((i : Nat) : Int) + 1) (rfl) rfl dX6_shareStored_30 (by decide) rfl ?_
    refine V_goto X 4 dX6_shareStored_33 (by decide) ?_
    refine V_sub (lv' := [(0, .ref (ga g (0))), (1, .int (iN ((sumF (fun l => σ.1 (7 + 2 * l) 1) i) + (σ.1 (7 + 2 * i) (1))))), (2, .int (iN (((i : Nat) : Int) + 1)))]) [2, 1, 0] rfl ?_
    refine V_lv (congrArg (fun q : Int => ([(0, .ref (ga g (0))), (1, .int (iN q)), (2, .int (iN (((i : Nat) : Int) + 1)))] : List (Nat × Value))) (show (sumF (fun l => σ.1 (7 + 2 * l) 1) i) + (σ.1 (7 + 2 * i) (1)) = sumF (fun l => σ.1 (7 + 2 * l) 1) (i + 1) from rfl)) ?_
    refine V_lv (congrArg (fun q : Int => ([(0, .ref (ga g (0))), (1, .int (iN (sumF (fun l => σ.1 (7 + 2 * l) 1) (i + 1)))), (2, .int (iN q))] : List (Nat × Value))) (show ((i : Nat) : Int) + 1 = (((i + 1) : Nat) : Int) from by omega)) ?_
    exact kk _ _ ⟨rfl, rfl, ⟨by show 0 ≤ sumF _ i + σ.1 (7 + 2 * i) 1; have := (hk i hiN).1; omega, by show sumF _ i + σ.1 (7 + 2 * i) 1 ≤ _; have := (hk i hiN).2; omega⟩⟩
theorem mt_b {σ : St} {i : Nat} (h : 0 ≤ cntC σ i ∧ cntC σ i ≤ 1009999) (hb : 0 ≤ mtF σ i ∧ mtF σ i ≤ 1100000 * i) : 0 ≤ mtF σ (i + 1) ∧ mtF σ (i + 1) ≤ 1100000 * ((i + 1 : Nat) : Int) := by
  have e : mtF σ (i + 1) = mtF σ i + (if σ.1 (7 + 2 * i) 9 = 0 then 0 else cntC σ i) := rfl
  rw [e]
  split <;> omega

theorem atm_X6_meanTime_113 : ∀ w ∈ vx_atN RX6 113 "java/util/NoSuchElementException" ["java/lang/RuntimeException", "java/lang/Exception"], goodWord w = true → w ∈ wsX6_meanTime := fun w h0 hg0 => by
  have h := List.mem_filter.mpr ⟨h0, hg0⟩
  exact List.mem_cons_of_mem _ (List.mem_append_right _ h)
set_option maxRecDepth 100000 in
set_option maxHeartbeats 4000000 in
theorem m_X6_meanTime (g : Geo) (l : Launch) (hl9 : l.stackTraces = false) (σ : St) (hR : RG σ) (n : Nat) (hLB : LB σ n) : vx_Met l yX6_meanTime wsX6_meanTime ({ frames := 6, cells := 1, slots := 6, locals := 90 }) (va_Pc [.ref (ga g (0))] (World g σ)) (QD g (fun z u => ¬ sumF (fun l => if σ.1 (7 + 2 * l) 9 = 0 then 0 else 1) n = 0 ∧ z = FP.ddiv (FP.i2d (iN (mtF σ n))) (FP.i2d (iN (sumF (fun l => if σ.1 (7 + 2 * l) 9 = 0 then 0 else 1) n))) ∧ u = σ)) (XT g (fun E u => E = "java/util/NoSuchElementException" ∧ sumF (fun l => if σ.1 (7 + 2 * l) 9 = 0 then 0 else 1) n = 0 ∧ u = σ)) 1 6 (gA g) := by
  refine V_metX hl9 (by decide) rfl (Nat.le_of_ble_eq_true rfl) ?_
  intro p9 e9 s9 m9 b9 t9 c9 X hno hr
  have hn := hLB.1
  have hn30 : σ.1 5 1 ≤ 30 := by have := hLB.2.1; omega
  have hn30 := hLB.2.1
  refine V_lv (lv' := [(0, .ref (ga g (0)))]) rfl ?_
  refine V_aload_n X 0 rfl dX6_meanTime_0 rfl ?_
  refine V_get X (ci := 6) (0) (by decide) (rfl) (by decide) rfl (fun _ h => List.mem_cons_of_mem _ (List.mem_append_left _ (List.mem_append_left _ (List.mem_append_left _ (List.mem_append_right _ h))))) 7 (by decide) (List.mem_of_getElem? (i := 3) rfl) rfl rfl dX6_meanTime_1 ?_
  refine V_callV_I X (na := 0) (ci := 0) (b0 := 5) (by decide) (rfl) (by decide) rfl (m_X0_countStanding g l hl9 σ hR n hn hn30) gX6_meanTime_X0_countStanding rfl rfl rfl (by decide +kernel) ⟨Nat.le_of_ble_eq_true rfl, Nat.le_of_ble_eq_true rfl⟩ rfl rfl (Nat.le_of_ble_eq_true rfl) ⟨Nat.le_of_ble_eq_true rfl, Nat.le_of_ble_eq_true rfl⟩ dX6_meanTime_4 (fun z1 u2 z1r hp3 => ?_)
  obtain ⟨hz, hu4⟩ := hp3
  have hu4 := hu4.symm
  subst hu4
  have hzb := sumF_b (f := fun l => if σ.1 (7 + 2 * l) 9 = 0 then (0 : Int) else 1) (c := 1) (fun l => by split <;> omega) n
  rw [← hz] at hzb
  refine V_istore_n X [(1, .int (iN (z1))), (0, .ref (ga g (0)))] dX6_meanTime_7 rfl (by decide) rfl ?_
  refine V_iload_n X 0 rfl dX6_meanTime_8 rfl ?_
  refine V_if_ne X 23 z1r dX6_meanTime_9 (by decide) (fun q5 => ?_) (fun q5 => ?_)
  · skip
    refine V_iconst X dX6_meanTime_23 ?_
    refine V_istore_n X [(2, .int (iN (0))), (1, .int (iN (z1))), (0, .ref (ga g (0)))] dX6_meanTime_24 rfl (by decide) rfl ?_
    refine V_iconst X dX6_meanTime_25 ?_
    refine V_istore_n X [(3, .int (iN (0))), (2, .int (iN (0))), (1, .int (iN (z1))), (0, .ref (ga g (0)))] dX6_meanTime_26 rfl (by decide) rfl ?_
    refine V_sub (lv' := [(0, .ref (ga g (0))), (1, .int (iN (z1))), (2, .int (iN (0))), (3, .int (iN (0)))]) [3, 2, 1, 0] rfl ?_
    refine V_up (N := n) (fun (i : Nat) (u : St) (lw : List (Nat × Value)) => σ = u ∧ [(0, .ref (ga g (0))), (1, .int (iN (z1))), (2, .int (iN (mtF σ i))), (3, .int (iN (((i : Nat) : Int))))] = lw ∧ (0 ≤ mtF σ i ∧ mtF σ i ≤ 1100000 * i)) (i0 := 0) (Nat.zero_le _) ⟨rfl, rfl, ⟨Int.le_refl 0, Int.le_refl 0⟩⟩ ?_ ?_
    · skip
      rintro _ _ ⟨rfl, rfl, hb⟩
      refine V_iload_n X 3 rfl dX6_meanTime_27 rfl ?_
      refine V_aload_n X 0 rfl dX6_meanTime_28 rfl ?_
      refine V_get X (ci := 6) (0) (by decide) (rfl) (by decide) rfl (fun _ h => List.mem_cons_of_mem _ (List.mem_append_left _ (List.mem_append_left _ (List.mem_append_left _ (List.mem_append_right _ h))))) 7 (by decide) (List.mem_of_getElem? (i := 3) rfl) rfl rfl dX6_meanTime_29 ?_
      refine V_get X (ci := 0) (5) (by decide) (rfl) (by decide) rfl (fun _ h => List.mem_cons_of_mem _ (List.mem_append_left _ (List.mem_append_left _ (List.mem_append_right _ h)))) 1 (by decide) (List.mem_of_getElem? (i := 4) rfl) rfl rfl dX6_meanTime_32 ?_
      refine V_icmp_ge X 75 ⟨by omega, by omega⟩ (hR _ _) dX6_meanTime_35 (by decide) (fun _ => ?_) (fun h => absurd h (by omega))
      refine V_iload_n X 2 rfl dX6_meanTime_75 rfl ?_
      refine V_i2d X dX6_meanTime_76 ?_
      refine V_iload_n X 1 rfl dX6_meanTime_77 rfl ?_
      refine V_i2d X dX6_meanTime_78 ?_
      refine V_ddiv X ((fp_ddivX (fp_i2d _) (by have e := fp_pos64 z1.toNat (by omega) (by omega); rw [show ((z1.toNat : Nat) : Int) = z1 by omega] at e; exact e)).2) dX6_meanTime_79 ?_
      exact V_dretX X hr (by exact ⟨by omega, by rw [← hz], rfl⟩) dX6_meanTime_80 (by decide) (by decide)
    · skip
      rintro i _ _ hiN ⟨rfl, rfl, hb⟩ kk
      refine V_iload_n X 3 rfl dX6_meanTime_27 rfl ?_
      refine V_aload_n X 0 rfl dX6_meanTime_28 rfl ?_
      refine V_get X (ci := 6) (0) (by decide) (rfl) (by decide) rfl (fun _ h => List.mem_cons_of_mem _ (List.mem_append_left _ (List.mem_append_left _ (List.mem_append_left _ (List.mem_append_right _ h))))) 7 (by decide) (List.mem_of_getElem? (i := 3) rfl) rfl rfl dX6_meanTime_29 ?_
      refine V_get X (ci := 0) (5) (by decide) (rfl) (by decide) rfl (fun _ h => List.mem_cons_of_mem _ (List.mem_append_left _ (List.mem_append_left _ (List.mem_append_right _ h)))) 1 (by decide) (List.mem_of_getElem? (i := 4) rfl) rfl rfl dX6_meanTime_32 ?_
      refine V_icmp_ge X 75 ⟨by omega, by omega⟩ (hR _ _) dX6_meanTime_35 (by decide) (fun h => absurd h (by omega)) (fun _ => ?_)
      refine V_aload_n X 0 rfl dX6_meanTime_38 rfl ?_
      refine V_get X (ci := 6) (0) (by decide) (rfl) (by decide) rfl (fun _ h => List.mem_cons_of_mem _ (List.mem_append_left _ (List.mem_append_left _ (List.mem_append_left _ (List.mem_append_right _ h))))) 7 (by decide) (List.mem_of_getElem? (i := 3) rfl) rfl rfl dX6_meanTime_39 ?_
      refine V_get X (ci := 0) (5) (by decide) (rfl) (by decide) rfl (fun _ h => List.mem_cons_of_mem _ (List.mem_append_left _ (List.mem_append_left _ (List.mem_append_right _ h)))) 0 (by decide) (List.mem_of_getElem? (i := 5) rfl) rfl rfl dX6_meanTime_42 ?_
      refine V_iload_n X 3 rfl dX6_meanTime_45 rfl ?_
      refine V_aald16 X (6) (by decide) (rfl) (i) (rfl) (by omega) dX6_meanTime_46 ?_
      refine V_astore X [(4, .ref (ga g (7 + 2 * i))), (0, .ref (ga g (0))), (1, .int (iN (z1))), (2, .int (iN (mtF σ i))), (3, .int (iN (((i : Nat) : Int))))] dX6_meanTime_47 (by decide) rfl ?_
      refine V_iload_n X 3 rfl dX6_meanTime_49 rfl ?_
      refine V_aload X 0 rfl dX6_meanTime_50 ?_
      refine V_get X (ci := 2) (7 + 2 * i) (by omega) (kd_lap (by omega)) (by decide) rfl (fun _ h => List.mem_cons_of_mem _ (List.mem_append_left _ (List.mem_append_right _ h))) 9 (by decide) (List.mem_of_getElem? (i := 6) rfl) rfl rfl dX6_meanTime_52 ?_
      refine V_if_eq X 66 (hR _ _) dX6_meanTime_55 (by decide) (fun q6 => ?_) (fun q6 => ?_)
      · skip
        refine V_iconst X dX6_meanTime_66 ?_
        refine V_iadd X dX6_meanTime_67 ?_
        refine V_istore_n X [(2, .int (iN ((mtF σ i) + 0))), (4, .ref (ga g (7 + 2 * i))), (0, .ref (ga g (0))), (1, .int (iN (z1))), (3, .int (iN (((i : Nat) : Int))))] dX6_meanTime_68 rfl (by decide) rfl ?_
        refine V_iinc X [(3, .int (iN (((i : Nat) : Int) + 1))), (2, .int (iN ((mtF σ i) + 0))), (4, .ref (ga g (7 + 2 * i))), (0, .ref (ga g (0))), (1, .int (iN (z1)))] 4 (((i : Nat) : Int) + 1) (rfl) rfl dX6_meanTime_69 (by decide) rfl ?_
        refine V_goto X 27 dX6_meanTime_72 (by decide) ?_
        refine V_sub (lv' := [(0, .ref (ga g (0))), (1, .int (iN (z1))), (2, .int (iN ((mtF σ i) + 0))), (3, .int (iN (((i : Nat) : Int) + 1)))]) [3, 4, 1, 0] rfl ?_
        refine V_lv (congrArg (fun q : Int => ([(0, .ref (ga g (0))), (1, .int (iN (z1))), (2, .int (iN q)), (3, .int (iN (((i : Nat) : Int) + 1)))] : List (Nat × Value))) (show (mtF σ i) + 0 = mtF σ (i + 1) from by show _ = sumF _ i + (if _ then _ else _); rw [if_pos (by omega)]; rfl)) ?_
        refine V_lv (congrArg (fun q : Int => ([(0, .ref (ga g (0))), (1, .int (iN (z1))), (2, .int (iN (mtF σ (i + 1)))), (3, .int (iN q))] : List (Nat × Value))) (show ((i : Nat) : Int) + 1 = (((i + 1) : Nat) : Int) from by omega)) ?_
        exact kk _ _ ⟨rfl, rfl, mt_b (hLB.cnt hiN) hb⟩
      · skip
        refine V_aload X 0 rfl dX6_meanTime_58 ?_
        have hcb := hLB.cnt (l := i) (by omega)
        unfold cntC at hcb
        refine V_callV_I X (na := 0) (ci := 2) (b0 := 7 + 2 * i) (by omega) (kd_lap (by omega)) (by decide) rfl (m_X2_counted g l hl9 σ hR i (by omega) (by omega) (by omega)) gX6_meanTime_X2_counted rfl rfl rfl (by decide +kernel) ⟨Nat.le_of_ble_eq_true rfl, Nat.le_of_ble_eq_true rfl⟩ rfl rfl (Nat.le_of_ble_eq_true rfl) ⟨Nat.le_of_ble_eq_true rfl, Nat.le_of_ble_eq_true rfl⟩ dX6_meanTime_60 (fun z7 u8 z7r hp9 => ?_)
        obtain ⟨hzc, hu10⟩ := hp9
        have hu10 := hu10.symm
        subst hu10
        subst hzc
        refine V_goto X 67 dX6_meanTime_63 (by decide) ?_
        refine V_iadd X dX6_meanTime_67 ?_
        refine V_istore_n X [(2, .int (iN ((mtF σ i) + ((σ.1 (7 + 2 * i) 2 + σ.1 (7 + 2 * i) 8))))), (4, .ref (ga g (7 + 2 * i))), (0, .ref (ga g (0))), (1, .int (iN (z1))), (3, .int (iN (((i : Nat) : Int))))] dX6_meanTime_68 rfl (by decide) rfl ?_
        refine V_iinc X [(3, .int (iN (((i : Nat) : Int) + 1))), (2, .int (iN ((mtF σ i) + ((σ.1 (7 + 2 * i) 2 + σ.1 (7 + 2 * i) 8))))), (4, .ref (ga g (7 + 2 * i))), (0, .ref (ga g (0))), (1, .int (iN (z1)))] 4 (((i : Nat) : Int) + 1) (rfl) rfl dX6_meanTime_69 (by decide) rfl ?_
        refine V_goto X 27 dX6_meanTime_72 (by decide) ?_
        refine V_sub (lv' := [(0, .ref (ga g (0))), (1, .int (iN (z1))), (2, .int (iN ((mtF σ i) + ((σ.1 (7 + 2 * i) 2 + σ.1 (7 + 2 * i) 8))))), (3, .int (iN (((i : Nat) : Int) + 1)))]) [3, 4, 1, 0] rfl ?_
        refine V_lv (congrArg (fun q : Int => ([(0, .ref (ga g (0))), (1, .int (iN (z1))), (2, .int (iN q)), (3, .int (iN (((i : Nat) : Int) + 1)))] : List (Nat × Value))) (show (mtF σ i) + ((σ.1 (7 + 2 * i) 2 + σ.1 (7 + 2 * i) 8)) = mtF σ (i + 1) from by show _ = sumF _ i + (if _ then _ else _); rw [if_neg (by omega)]; rfl)) ?_
        refine V_lv (congrArg (fun q : Int => ([(0, .ref (ga g (0))), (1, .int (iN (z1))), (2, .int (iN (mtF σ (i + 1)))), (3, .int (iN q))] : List (Nat × Value))) (show ((i : Nat) : Int) + 1 = (((i + 1) : Nat) : Int) from by omega)) ?_
        exact kk _ _ ⟨rfl, rfl, mt_b (hLB.cnt hiN) hb⟩
  · skip
    exact V_throwNW X hno rfl (List.mem_of_getElem? (i := 28) rfl) (by decide) (List.mem_of_getElem? (i := 1) rfl) (List.mem_of_getElem? (i := 2) rfl) (atm_X6_meanTime_113) gb_X6_113 (List.mem_of_getElem? (i := 4) rfl) (gd_X6_113) dX6_meanTime_12 dX6_meanTime_15 dX6_meanTime_16 dX6_meanTime_19 dX6_meanTime_22 (Nat.le_of_ble_eq_true rfl) (Nat.le_of_ble_eq_true rfl) (Nat.le_of_ble_eq_true rfl) (Nat.le_of_ble_eq_true rfl) (by decide) (by decide) (⟨rfl, by omega, rfl⟩)
