/-! ===== rides and laps kept ===== -/
def FlP (σ : St) (t c k : Nat) (inp : Nat → Int) (i : Nat) (u : St) : Prop := FrR σ u ∧ u.1 4 0 = (rideC σ t c k inp i).1 ∧ u.1 4 1 = (rideC σ t c k inp i).2.1 ∧ u.1 4 2 = (rideC σ t c k inp i).2.2.1 ∧ u.1 4 4 = (if (rideC σ t c k inp i).2.2.2 = true then 1 else 0) ∧ u.1 4 3 = tmF (σ.1 (73 + 3 * t) 3) (rideC σ t c k inp i)
theorem fl_step {σ u v : St} {t c k i : Nat} {inp : Nat → Int} (hT : TC σ t c k) (hf : FlP σ t c k inp i u) (hno : ¬ (rideC σ t c k inp i).2.2.2 = true) (hm : MvP u t c k (inp i) v) : FlP σ t c k inp (i + 1) v := by
  obtain ⟨f1, e0, e1, e2, e4, e3⟩ := hf
  obtain ⟨g1, g2, g3, g4⟩ := hm
  have ht4 := hT.1
  have hc4 := hT.2.1
  have hr : rideC σ t c k inp (i + 1) = rsF (σ.1 (73 + 3 * t) 3) (fun p => limG (σ.1 (73 + 3 * t + 1)) (σ.1 (73 + 3 * t + 2)) p 0 k) (σ.1 (85 + c) 0) (σ.1 (85 + c) 1) (σ.1 (85 + c) 2) (rideC σ t c k inp i) (inp i) := by
    unfold rideC at hno ⊢
    rw [rfF, if_neg hno]
  rw [f1.1 (73 + 3 * t) (by omega), f1.1 (73 + 3 * t + 1) (by omega), f1.1 (73 + 3 * t + 2) (by omega), f1.1 (85 + c) (by omega), e0, e1, e2] at g2
  rw [f1.1 (73 + 3 * t) (by omega)] at g3 g4
  have hri : ((rideC σ t c k inp i).1, (rideC σ t c k inp i).2.1, (rideC σ t c k inp i).2.2.1, false) = rideC σ t c k inp i := by
    have : (rideC σ t c k inp i).2.2.2 = false := by simpa using hno
    rw [← this]
  rw [hri, ← hr] at g2
  have q0 := congrArg Prod.fst g2
  have q1 := congrArg (fun x => x.2.1) g2
  have q2 := congrArg (fun x => x.2.2.1) g2
  have q3 := congrArg (fun x => x.2.2.2) g2
  simp only at q0 q1 q2 q3
  refine ⟨f1.tr g1, q0, q1, q2, ?_, ?_⟩
  · by_cases h : σ.1 (73 + 3 * t) 3 ≤ v.1 4 0
    · rw [(g3 h).1, ← q3, if_pos (by simp [h])]
    · rw [(g4 h).1, ← q3, if_neg (by simp [h]), e4, if_neg hno]
  · unfold tmF
    by_cases h : σ.1 (73 + 3 * t) 3 ≤ v.1 4 0
    · rw [(g3 h).2, ← q3, if_pos (by simp [h]), ← q0, ← q1, ← q2]
    · rw [(g4 h).2, ← q3, if_neg (by simp [h]), e3]
      unfold tmF
      rw [if_neg hno]
theorem fl_b {σ u : St} {t c k i : Nat} {inp : Nat → Int} (hT : TC σ t c k) (hf : FlP σ t c k inp i u) : 0 ≤ u.1 4 0 ∧ u.1 4 0 ≤ 9 * i ∧ 0 ≤ u.1 4 1 ∧ u.1 4 1 ≤ 9 ∧ 0 ≤ u.1 4 2 ∧ u.1 4 2 ≤ i := by
  obtain ⟨f1, e0, e1, e2, -, -⟩ := hf
  obtain ⟨h1, h2, h3, h4, h5, h6, h7, h8, h9, h10, h11, h12, h13⟩ := hT
  rw [e0, e1, e2]
  exact rfF_b h10 h8 h9 i
theorem fl_end {σ u : St} {t c k i n : Nat} {inp : Nat → Int} (hf : FlP σ t c k inp i u) (hi : i ≤ n) (ho : (rideC σ t c k inp i).2.2.2 = true) : FlP σ t c k inp n u := by
  have e : rideC σ t c k inp n = rideC σ t c k inp i := by
    have h := rfF_over (i := i) ho (n - i)
    rw [show i + (n - i) = n by omega] at h
    exact h
  unfold FlP
  rw [e]
  exact hf

theorem rd_cp {σ : St} {a b i k : Nat} (h : b ≠ a) : (cpyT σ a i).1 b k = σ.1 b k := by rw [cpyT_n h]

theorem unl_b {ia ib : Nat → Int} {tb : Int} {i : Nat} (h : 0 ≤ unlF ia ib tb i ∧ unlF ia ib tb i ≤ i) : 0 ≤ unlF ia ib tb (i + 1) ∧ unlF ia ib tb (i + 1) ≤ ((i + 1 : Nat) : Int) := by
  have e : unlF ia ib tb (i + 1) = unlF ia ib tb i + (if tb ≤ (i : Int) ∨ ia i ≠ ib i then 1 else 0) := rfl
  rw [e]
  split <;> omega

theorem fl_0 {σ : St} {t c k : Nat} {inp : Nat → Int} (hR : RG σ) : FlP σ t c k inp 0 (sw (sw (sw (sw (sw σ 4 0 0) 4 1 0) 4 2 0) 4 3 0) 4 4 0) := by
  have z : R32 0 := ⟨by decide, by decide⟩
  refine ⟨(((((FrR.rf hR).sw 0 z).sw 1 z).sw 2 z).sw 3 z).sw 4 z, ?_, ?_, ?_, ?_, ?_⟩ <;> simp [sw_get, rideC, rfF, tmF]

set_option maxRecDepth 100000 in
set_option maxHeartbeats 4000000 in
theorem m_X2_keep (g : Geo) (l : Launch) (hl9 : l.stackTraces = false) (σ : St) (hR : RG σ) (j : Nat) (hj : j < 30) (n : Nat) (hn : σ.1 4 2 = (n : Int)) (hn60 : n ≤ 60) (hch : ∀ i, i < 60 → 0 ≤ σ.1 3 i ∧ σ.1 3 i < 65536) : Met l yX2_keep wsX2_keep ({ frames := 0, cells := 0, slots := 0, locals := 0 }) (va_Pc [.ref (ga g (7 + 2 * j)), .ref (ga g (4)), .ref (ga g (3))] (World g σ)) (QV g (fun u => u = sw (sw (sw (cpyT σ (7 + 2 * j + 1) n) (7 + 2 * j) 1 (σ.1 4 2)) (7 + 2 * j) 2 (σ.1 4 3)) (7 + 2 * j) 9 1)) 0 0 (gA g) := by
  refine V_met hl9 (by decide) rfl (Nat.le_of_ble_eq_true rfl) ?_
  intro p9 e9 s9 m9 b9 t9 c9 X hr _
  refine V_lv (lv' := [(0, .ref (ga g (7 + 2 * j))), (1, .ref (ga g (4))), (2, .ref (ga g (3)))]) rfl ?_
  refine V_iconst X dX2_keep_0 ?_
  refine V_istore_n X [(3, .int (iN (0))), (0, .ref (ga g (7 + 2 * j))), (1, .ref (ga g (4))), (2, .ref (ga g (3)))] dX2_keep_1 rfl (by decide) rfl ?_
  refine V_sub (lv' := [(0, .ref (ga g (7 + 2 * j))), (1, .ref (ga g (4))), (2, .ref (ga g (3))), (3, .int (iN (0)))]) [1, 2, 3, 0] rfl ?_
  refine V_up (N := n) (fun (i : Nat) (u : St) (lw : List (Nat × Value)) => True ∧ [(0, .ref (ga g (7 + 2 * j))), (1, .ref (ga g (4))), (2, .ref (ga g (3))), (3, .int (iN (((i : Nat) : Int))))] = lw ∧ (u = cpyT σ (7 + 2 * j + 1) i)) (Nat.zero_le _) ⟨trivial, rfl, (cpyT_0 σ _).symm⟩ ?_ ?_
  · skip
    rintro u1 _ ⟨-, rfl, rfl⟩
    refine V_iload_n X 3 rfl dX2_keep_2 rfl ?_
    refine V_aload_n X 1 rfl dX2_keep_3 rfl ?_
    refine V_get X (ci := 3) (4) (by decide) (rfl) (by decide) rfl (fun _ h => List.mem_cons_of_mem _ (List.mem_append_left _ (List.mem_append_right _ h))) 2 (by decide) (List.mem_of_getElem? (i := 1) rfl) rfl rfl dX2_keep_4 ?_
    refine V_top (b := σ.1 4 2) (rd_cp (by omega)) ?_
    refine V_icmp_ge X 37 ⟨by omega, by omega⟩ (hR 4 2) dX2_keep_7 (by decide) (fun _ => ?_) (fun h => absurd h (by omega))
    refine V_aload_n X 0 rfl dX2_keep_37 rfl ?_
    refine V_aload_n X 1 rfl dX2_keep_38 rfl ?_
    refine V_get X (ci := 3) (4) (by decide) (rfl) (by decide) rfl (fun _ h => List.mem_cons_of_mem _ (List.mem_append_left _ (List.mem_append_right _ h))) 2 (by decide) (List.mem_of_getElem? (i := 1) rfl) rfl rfl dX2_keep_39 ?_
    refine V_top (b := σ.1 4 2) (rd_cp (by omega)) ?_
    refine V_put X (ci := 2) (7 + 2 * j) (by omega) (kd_lap hj) (by decide) rfl (fun _ h => List.mem_cons_of_mem _ (List.mem_append_right _ h)) 1 (by decide) (List.mem_of_getElem? (i := 3) rfl) rfl tyX2 tyX2_ok nmX2 rfl rfl rfl rfl rfl (Nat.le_of_ble_eq_true rfl) dX2_keep_42 ?_
    refine V_aload_n X 0 rfl dX2_keep_45 rfl ?_
    refine V_aload_n X 1 rfl dX2_keep_46 rfl ?_
    refine V_get X (ci := 3) (4) (by decide) (rfl) (by decide) rfl (fun _ h => List.mem_cons_of_mem _ (List.mem_append_left _ (List.mem_append_right _ h))) 3 (by decide) (List.mem_of_getElem? (i := 4) rfl) rfl rfl dX2_keep_47 ?_
    refine V_top (b := (cpyT σ (7 + 2 * j + 1) n).1 4 3) (rd_n (by omega)) ?_
    refine V_top (b := σ.1 4 3) (rd_cp (by omega)) ?_
    refine V_put X (ci := 2) (7 + 2 * j) (by omega) (kd_lap hj) (by decide) rfl (fun _ h => List.mem_cons_of_mem _ (List.mem_append_right _ h)) 2 (by decide) (List.mem_of_getElem? (i := 5) rfl) rfl tyX2 tyX2_ok nmX2 rfl rfl rfl rfl rfl (Nat.le_of_ble_eq_true rfl) dX2_keep_50 ?_
    refine V_aload_n X 0 rfl dX2_keep_53 rfl ?_
    refine V_iconst X dX2_keep_54 ?_
    refine V_put X (ci := 2) (7 + 2 * j) (by omega) (kd_lap hj) (by decide) rfl (fun _ h => List.mem_cons_of_mem _ (List.mem_append_right _ h)) 9 (by decide) (List.mem_of_getElem? (i := 6) rfl) rfl tyX2 tyX2_ok nmX2 rfl rfl (iN_bool (Or.inr rfl)).1 (iN_bool (Or.inr rfl)).2 rfl (Nat.le_of_ble_eq_true rfl) dX2_keep_55 ?_
    exact V_vret X hr (by exact rfl) dX2_keep_58 (by decide) (by decide)
  · skip
    rintro i u1 _ hiN ⟨-, rfl, rfl⟩ kk
    refine V_iload_n X 3 rfl dX2_keep_2 rfl ?_
    refine V_aload_n X 1 rfl dX2_keep_3 rfl ?_
    refine V_get X (ci := 3) (4) (by decide) (rfl) (by decide) rfl (fun _ h => List.mem_cons_of_mem _ (List.mem_append_left _ (List.mem_append_right _ h))) 2 (by decide) (List.mem_of_getElem? (i := 1) rfl) rfl rfl dX2_keep_4 ?_
    refine V_top (b := σ.1 4 2) (rd_cp (by omega)) ?_
    refine V_icmp_ge X 37 ⟨by omega, by omega⟩ (hR 4 2) dX2_keep_7 (by decide) (fun h => absurd h (by omega)) (fun _ => ?_)
    refine V_iload_n X 3 rfl dX2_keep_10 rfl ?_
    refine V_bipush X (by decide) dX2_keep_11 ?_
    refine V_icmp_ge X 37 ⟨by omega, by omega⟩ ⟨by decide, by decide⟩ dX2_keep_13 (by decide) (fun h => absurd h (by omega)) (fun _ => ?_)
    refine V_iload_n X 3 rfl dX2_keep_16 rfl ?_
    refine V_aload_n X 2 rfl dX2_keep_17 rfl ?_
    refine V_alen X (ti := 0) (3) (by decide) (rfl) (by decide) (by decide) (rfl) rfl dX2_keep_18 ?_
    refine V_top (b := 60) rfl ?_
    refine V_icmp_ge X 37 ⟨by omega, by omega⟩ ⟨by decide, by decide⟩ dX2_keep_19 (by decide) (fun h => absurd h (by omega)) (fun _ => ?_)
    refine V_aload_n X 0 rfl dX2_keep_22 rfl ?_
    refine V_get X (ci := 2) (7 + 2 * j) (by omega) (kd_lap hj) (by decide) rfl (fun _ h => List.mem_cons_of_mem _ (List.mem_append_right _ h)) 0 (by decide) (List.mem_of_getElem? (i := 2) rfl) rfl rfl dX2_keep_23 ?_
    refine V_iload_n X 3 rfl dX2_keep_26 rfl ?_
    refine V_aload_n X 2 rfl dX2_keep_27 rfl ?_
    refine V_iload_n X 3 rfl dX2_keep_28 rfl ?_
    refine V_cald X (N := 60) (3) (by decide) (rfl) (rfl) (by decide) (i) (rfl) (by omega) dX2_keep_29 ?_
    refine V_top (b := σ.1 3 i) (rd_cp (by omega)) ?_
    refine V_cast X (N := 60) (7 + 2 * j + 1) (by omega) (kd_in hj) (ln_in hj) (by decide) (i) (rfl) (by omega) ((hch i (by omega)).1) ((hch i (by omega)).2) dX2_keep_30 ?_
    refine V_iinc X [(3, .int (iN (((i : Nat) : Int) + 1))), (0, .ref (ga g (7 + 2 * j))), (1, .ref (ga g (4))), (2, .ref (ga g (3)))] 3 (((i : Nat) : Int) + 1) (rfl) rfl dX2_keep_31 (by decide) rfl ?_
    refine V_goto X 2 dX2_keep_34 (by decide) ?_
    refine V_sub (lv' := [(0, .ref (ga g (7 + 2 * j))), (1, .ref (ga g (4))), (2, .ref (ga g (3))), (3, .int (iN (((i : Nat) : Int) + 1)))]) [1, 2, 3, 0] rfl ?_
    refine V_lv (congrArg (fun q : Int => ([(0, .ref (ga g (7 + 2 * j))), (1, .ref (ga g (4))), (2, .ref (ga g (3))), (3, .int (iN q))] : List (Nat × Value))) (show ((i : Nat) : Int) + 1 = (((i + 1) : Nat) : Int) from by omega)) ?_
    exact kk _ _ ⟨trivial, rfl, cpyT_s⟩
set_option maxRecDepth 100000 in
set_option maxHeartbeats 4000000 in
theorem m_X2_inputsUnlike (g : Geo) (l : Launch) (hl9 : l.stackTraces = false) (σ : St) (hR : RG σ) (j : Nat) (hj : j < 30) (j2 : Nat) (hj2 : j2 < 30) (n : Nat) (hn : σ.1 (7 + 2 * j) 1 = (n : Int)) (hn60 : n ≤ 60) (ht2 : σ.1 (7 + 2 * j2) 1 ≤ 60) : Met l yX2_inputsUnlike wsX2_inputsUnlike ({ frames := 0, cells := 0, slots := 0, locals := 0 }) (va_Pc [.ref (ga g (7 + 2 * j)), .ref (ga g (7 + 2 * j2))] (World g σ)) (QI g (fun z u => z = unlF (σ.1 (7 + 2 * j + 1)) (σ.1 (7 + 2 * j2 + 1)) (σ.1 (7 + 2 * j2) 1) n ∧ u = σ)) 0 0 (gA g) := by
  refine V_met hl9 (by decide) rfl (Nat.le_of_ble_eq_true rfl) ?_
  intro p9 e9 s9 m9 b9 t9 c9 X hr _
  refine V_lv (lv' := [(0, .ref (ga g (7 + 2 * j))), (1, .ref (ga g (7 + 2 * j2)))]) rfl ?_
  refine V_iconst X dX2_inputsUnlike_0 ?_
  refine V_istore_n X [(2, .int (iN (0))), (0, .ref (ga g (7 + 2 * j))), (1, .ref (ga g (7 + 2 * j2)))] dX2_inputsUnlike_1 rfl (by decide) rfl ?_
  refine V_iconst X dX2_inputsUnlike_2 ?_
  refine V_istore_n X [(3, .int (iN (0))), (2, .int (iN (0))), (0, .ref (ga g (7 + 2 * j))), (1, .ref (ga g (7 + 2 * j2)))] dX2_inputsUnlike_3 rfl (by decide) rfl ?_
  refine V_sub (lv' := [(0, .ref (ga g (7 + 2 * j))), (1, .ref (ga g (7 + 2 * j2))), (2, .int (iN (0))), (3, .int (iN (0)))]) [2, 3, 1, 0] rfl ?_
  refine V_up (N := n) (fun (i : Nat) (u : St) (lw : List (Nat × Value)) => σ = u ∧ [(0, .ref (ga g (7 + 2 * j))), (1, .ref (ga g (7 + 2 * j2))), (2, .int (iN (unlF (σ.1 (7 + 2 * j + 1)) (σ.1 (7 + 2 * j2 + 1)) (σ.1 (7 + 2 * j2) 1) i))), (3, .int (iN (((i : Nat) : Int))))] = lw ∧ (0 ≤ unlF (σ.1 (7 + 2 * j + 1)) (σ.1 (7 + 2 * j2 + 1)) (σ.1 (7 + 2 * j2) 1) i ∧ unlF (σ.1 (7 + 2 * j + 1)) (σ.1 (7 + 2 * j2 + 1)) (σ.1 (7 + 2 * j2) 1) i ≤ i)) (Nat.zero_le _) ⟨rfl, rfl, ⟨Int.le_refl 0, Int.le_refl 0⟩⟩ ?_ ?_
  · skip
    rintro _ _ ⟨rfl, rfl, hb⟩
    refine V_iload_n X 3 rfl dX2_inputsUnlike_4 rfl ?_
    refine V_aload_n X 0 rfl dX2_inputsUnlike_5 rfl ?_
    refine V_get X (ci := 2) (7 + 2 * j) (by omega) (kd_lap hj) (by decide) rfl (fun _ h => List.mem_cons_of_mem _ (List.mem_append_right _ h)) 1 (by decide) (List.mem_of_getElem? (i := 1) rfl) rfl rfl dX2_inputsUnlike_6 ?_
    refine V_icmp_ge X 50 ⟨by omega, by omega⟩ (hR (7 + 2 * j) (1)) dX2_inputsUnlike_9 (by decide) (fun _ => ?_) (fun h => absurd h (by omega))
    refine V_iload_n X 2 rfl dX2_inputsUnlike_50 rfl ?_
    exact V_iret X hr rfl ⟨by omega, by omega⟩ (by exact ⟨rfl, rfl⟩) dX2_inputsUnlike_51 (by decide) (by decide)
  · skip
    rintro i _ _ hiN ⟨rfl, rfl, hb⟩ kk
    refine V_iload_n X 3 rfl dX2_inputsUnlike_4 rfl ?_
    refine V_aload_n X 0 rfl dX2_inputsUnlike_5 rfl ?_
    refine V_get X (ci := 2) (7 + 2 * j) (by omega) (kd_lap hj) (by decide) rfl (fun _ h => List.mem_cons_of_mem _ (List.mem_append_right _ h)) 1 (by decide) (List.mem_of_getElem? (i := 1) rfl) rfl rfl dX2_inputsUnlike_6 ?_
    refine V_icmp_ge X 50 ⟨by omega, by omega⟩ (hR (7 + 2 * j) (1)) dX2_inputsUnlike_9 (by decide) (fun h => absurd h (by omega)) (fun _ => ?_)
    refine V_iload_n X 3 rfl dX2_inputsUnlike_12 rfl ?_
    refine V_bipush X (by decide) dX2_inputsUnlike_13 ?_
    refine V_icmp_ge X 50 ⟨by omega, by omega⟩ ⟨by decide, by decide⟩ dX2_inputsUnlike_15 (by decide) (fun h => absurd h (by omega)) (fun _ => ?_)
    refine V_iload_n X 3 rfl dX2_inputsUnlike_18 rfl ?_
    refine V_aload_n X 1 rfl dX2_inputsUnlike_19 rfl ?_
    refine V_get X (ci := 2) (7 + 2 * j2) (by omega) (kd_lap hj2) (by decide) rfl (fun _ h => List.mem_cons_of_mem _ (List.mem_append_right _ h)) 1 (by decide) (List.mem_of_getElem? (i := 1) rfl) rfl rfl dX2_inputsUnlike_20 ?_
    refine V_icmp_ge X 41 ⟨by omega, by omega⟩ (hR (7 + 2 * j2) (1)) dX2_inputsUnlike_23 (by decide) (fun q1 => ?_) (fun q1 => ?_)
    · skip
      refine V_iinc X [(2, .int (iN (unlF (σ.1 (7 + 2 * j + 1)) (σ.1 (7 + 2 * j2 + 1)) (σ.1 (7 + 2 * j2) 1) i + 1))), (0, .ref (ga g (7 + 2 * j))), (1, .ref (ga g (7 + 2 * j2))), (3, .int (iN (((i : Nat) : Int))))] 2 (unlF (σ.1 (7 + 2 * j + 1)) (σ.1 (7 + 2 * j2 + 1)) (σ.1 (7 + 2 * j2) 1) i + 1) (rfl) rfl dX2_inputsUnlike_41 (by decide) rfl ?_
      refine V_iinc X [(3, .int (iN (((i : Nat) : Int) + 1))), (2, .int (iN (unlF (σ.1 (7 + 2 * j + 1)) (σ.1 (7 + 2 * j2 + 1)) (σ.1 (7 + 2 * j2) 1) i + 1))), (0, .ref (ga g (7 + 2 * j))), (1, .ref (ga g (7 + 2 * j2)))] 3 (((i : Nat) : Int) + 1) (rfl) rfl dX2_inputsUnlike_44 (by decide) rfl ?_
      refine V_goto X 4 dX2_inputsUnlike_47 (by decide) ?_
      refine V_sub (lv' := [(0, .ref (ga g (7 + 2 * j))), (1, .ref (ga g (7 + 2 * j2))), (2, .int (iN (unlF (σ.1 (7 + 2 * j + 1)) (σ.1 (7 + 2 * j2 + 1)) (σ.1 (7 + 2 * j2) 1) i + 1))), (3, .int (iN (((i : Nat) : Int) + 1)))]) [2, 3, 1, 0] rfl ?_
      refine V_lv (congrArg (fun q : Int => ([(0, .ref (ga g (7 + 2 * j))), (1, .ref (ga g (7 + 2 * j2))), (2, .int (iN q)), (3, .int (iN (((i : Nat) : Int) + 1)))] : List (Nat × Value))) (show unlF (σ.1 (7 + 2 * j + 1)) (σ.1 (7 + 2 * j2 + 1)) (σ.1 (7 + 2 * j2) 1) i + 1 = unlF (σ.1 (7 + 2 * j + 1)) (σ.1 (7 + 2 * j2 + 1)) (σ.1 (7 + 2 * j2) 1) (i + 1) from by show _ = unlF _ _ _ i + (if _ then 1 else 0); rw [if_pos (by omega)])) ?_
      refine V_lv (congrArg (fun q : Int => ([(0, .ref (ga g (7 + 2 * j))), (1, .ref (ga g (7 + 2 * j2))), (2, .int (iN (unlF (σ.1 (7 + 2 * j + 1)) (σ.1 (7 + 2 * j2 + 1)) (σ.1 (7 + 2 * j2) 1) (i + 1)))), (3, .int (iN q))] : List (Nat × Value))) (show ((i : Nat) : Int) + 1 = (((i + 1) : Nat) : Int) from by omega)) ?_
      exact kk _ _ ⟨rfl, rfl, unl_b hb⟩
    · skip
      refine V_aload_n X 0 rfl dX2_inputsUnlike_26 rfl ?_
      refine V_get X (ci := 2) (7 + 2 * j) (by omega) (kd_lap hj) (by decide) rfl (fun _ h => List.mem_cons_of_mem _ (List.mem_append_right _ h)) 0 (by decide) (List.mem_of_getElem? (i := 2) rfl) rfl rfl dX2_inputsUnlike_27 ?_
      refine V_iload_n X 3 rfl dX2_inputsUnlike_30 rfl ?_
      refine V_cald X (N := 60) (7 + 2 * j + 1) (by omega) (kd_in hj) (ln_in hj) (by decide) (i) (rfl) (by omega) dX2_inputsUnlike_31 ?_
      refine V_aload_n X 1 rfl dX2_inputsUnlike_32 rfl ?_
      refine V_get X (ci := 2) (7 + 2 * j2) (by omega) (kd_lap hj2) (by decide) rfl (fun _ h => List.mem_cons_of_mem _ (List.mem_append_right _ h)) 0 (by decide) (List.mem_of_getElem? (i := 2) rfl) rfl rfl dX2_inputsUnlike_33 ?_
      refine V_iload_n X 3 rfl dX2_inputsUnlike_36 rfl ?_
      refine V_cald X (N := 60) (7 + 2 * j2 + 1) (by omega) (kd_in hj2) (ln_in hj2) (by decide) (i) (rfl) (by omega) dX2_inputsUnlike_37 ?_
      refine V_icmp_eq X 44 (hR (7 + 2 * j + 1) (i)) (hR (7 + 2 * j2 + 1) (i)) dX2_inputsUnlike_38 (by decide) (fun q2 => ?_) (fun q2 => ?_)
      · skip
        refine V_iinc X [(3, .int (iN (((i : Nat) : Int) + 1))), (0, .ref (ga g (7 + 2 * j))), (1, .ref (ga g (7 + 2 * j2))), (2, .int (iN (unlF (σ.1 (7 + 2 * j + 1)) (σ.1 (7 + 2 * j2 + 1)) (σ.1 (7 + 2 * j2) 1) i)))] 3 (((i : Nat) : Int) + 1) (rfl) rfl dX2_inputsUnlike_44 (by decide) rfl ?_
        refine V_goto X 4 dX2_inputsUnlike_47 (by decide) ?_
        refine V_sub (lv' := [(0, .ref (ga g (7 + 2 * j))), (1, .ref (ga g (7 + 2 * j2))), (2, .int (iN (unlF (σ.1 (7 + 2 * j + 1)) (σ.1 (7 + 2 * j2 + 1)) (σ.1 (7 + 2 * j2) 1) i))), (3, .int (iN (((i : Nat) : Int) + 1)))]) [1, 2, 3, 0] rfl ?_
        refine V_lv (congrArg (fun q : Int => ([(0, .ref (ga g (7 + 2 * j))), (1, .ref (ga g (7 + 2 * j2))), (2, .int (iN q)), (3, .int (iN (((i : Nat) : Int) + 1)))] : List (Nat × Value))) (show unlF (σ.1 (7 + 2 * j + 1)) (σ.1 (7 + 2 * j2 + 1)) (σ.1 (7 + 2 * j2) 1) i = unlF (σ.1 (7 + 2 * j + 1)) (σ.1 (7 + 2 * j2 + 1)) (σ.1 (7 + 2 * j2) 1) (i + 1) from by show _ = unlF _ _ _ i + (if _ then 1 else 0); rw [if_neg (by omega)]; omega)) ?_
        refine V_lv (congrArg (fun q : Int => ([(0, .ref (ga g (7 + 2 * j))), (1, .ref (ga g (7 + 2 * j2))), (2, .int (iN (unlF (σ.1 (7 + 2 * j + 1)) (σ.1 (7 + 2 * j2 + 1)) (σ.1 (7 + 2 * j2) 1) (i + 1)))), (3, .int (iN q))] : List (Nat × Value))) (show ((i : Nat) : Int) + 1 = (((i + 1) : Nat) : Int) from by omega)) ?_
        exact kk _ _ ⟨rfl, rfl, unl_b hb⟩
      · skip
        refine V_iinc X [(2, .int (iN (unlF (σ.1 (7 + 2 * j + 1)) (σ.1 (7 + 2 * j2 + 1)) (σ.1 (7 + 2 * j2) 1) i + 1))), (0, .ref (ga g (7 + 2 * j))), (1, .ref (ga g (7 + 2 * j2))), (3, .int (iN (((i : Nat) : Int))))] 2 (unlF (σ.1 (7 + 2 * j + 1)) (σ.1 (7 + 2 * j2 + 1)) (σ.1 (7 + 2 * j2) 1) i + 1) (rfl) rfl dX2_inputsUnlike_41 (by decide) rfl ?_
        refine V_iinc X [(3, .int (iN (((i : Nat) : Int) + 1))), (2, .int (iN (unlF (σ.1 (7 + 2 * j + 1)) (σ.1 (7 + 2 * j2 + 1)) (σ.1 (7 + 2 * j2) 1) i + 1))), (0, .ref (ga g (7 + 2 * j))), (1, .ref (ga g (7 + 2 * j2)))] 3 (((i : Nat) : Int) + 1) (rfl) rfl dX2_inputsUnlike_44 (by decide) rfl ?_
        refine V_goto X 4 dX2_inputsUnlike_47 (by decide) ?_
        refine V_sub (lv' := [(0, .ref (ga g (7 + 2 * j))), (1, .ref (ga g (7 + 2 * j2))), (2, .int (iN (unlF (σ.1 (7 + 2 * j + 1)) (σ.1 (7 + 2 * j2 + 1)) (σ.1 (7 + 2 * j2) 1) i + 1))), (3, .int (iN (((i : Nat) : Int) + 1)))]) [2, 3, 1, 0] rfl ?_
        refine V_lv (congrArg (fun q : Int => ([(0, .ref (ga g (7 + 2 * j))), (1, .ref (ga g (7 + 2 * j2))), (2, .int (iN q)), (3, .int (iN (((i : Nat) : Int) + 1)))] : List (Nat × Value))) (show unlF (σ.1 (7 + 2 * j + 1)) (σ.1 (7 + 2 * j2 + 1)) (σ.1 (7 + 2 * j2) 1) i + 1 = unlF (σ.1 (7 + 2 * j + 1)) (σ.1 (7 + 2 * j2 + 1)) (σ.1 (7 + 2 * j2) 1) (i + 1) from by show _ = unlF _ _ _ i + (if _ then 1 else 0); rw [if_pos (by omega)])) ?_
        refine V_lv (congrArg (fun q : Int => ([(0, .ref (ga g (7 + 2 * j))), (1, .ref (ga g (7 + 2 * j2))), (2, .int (iN (unlF (σ.1 (7 + 2 * j + 1)) (σ.1 (7 + 2 * j2 + 1)) (σ.1 (7 + 2 * j2) 1) (i + 1)))), (3, .int (iN q))] : List (Nat × Value))) (show ((i : Nat) : Int) + 1 = (((i + 1) : Nat) : Int) from by omega)) ?_
        exact kk _ _ ⟨rfl, rfl, unl_b hb⟩
set_option maxRecDepth 100000 in
set_option maxHeartbeats 4000000 in
theorem m_X3_follow (g : Geo) (l : Launch) (hl9 : l.stackTraces = false) (σ : St) (hR : RG σ) (t c k : Nat) (hT : TC σ t c k) (a : Nat) (ha : a < 112) (ha4 : a ≠ 4) (hka : kd a = 8) (hna : ln a = 60) (n : Nat) (hn60 : n ≤ 60) : Met l yX3_follow wsX3_follow ({ frames := 3, cells := 0, slots := 0, locals := 65 }) (va_Pc [.ref (ga g (4)), .ref (ga g (a)), .int (iN (((n : Nat) : Int))), .ref (ga g (73 + 3 * t)), .ref (ga g (85 + c))] (World g σ)) (QV g (fun u => FlP σ t c k (σ.1 a) n u)) 0 0 (gA g) := by
  refine V_met hl9 (by decide) rfl (Nat.le_of_ble_eq_true rfl) ?_
  intro p9 e9 s9 m9 b9 t9 c9 X hr _
  obtain ⟨h1, h2, h3, h4, h5, h6, h7, h8, h9, h10, h11, h12, h13⟩ := id hT
  refine V_lv (lv' := [(0, .ref (ga g (4))), (1, .ref (ga g (a))), (2, .int (iN (((n : Nat) : Int)))), (3, .ref (ga g (73 + 3 * t))), (4, .ref (ga g (85 + c)))]) rfl ?_
  refine V_aload_n X 0 rfl dX3_follow_0 rfl ?_
  refine V_iconst X dX3_follow_1 ?_
  refine V_put X (ci := 3) (4) (by decide) (rfl) (by decide) rfl (fun _ h => List.mem_cons_of_mem _ (List.mem_append_left _ (List.mem_append_left _ (List.mem_append_right _ h)))) 0 (by decide) (List.mem_of_getElem? (i := 1) rfl) rfl tyX3 tyX3_ok nmX3 rfl rfl rfl rfl rfl (Nat.le_of_ble_eq_true rfl) dX3_follow_2 ?_
  refine V_aload_n X 0 rfl dX3_follow_5 rfl ?_
  refine V_iconst X dX3_follow_6 ?_
  refine V_put X (ci := 3) (4) (by decide) (rfl) (by decide) rfl (fun _ h => List.mem_cons_of_mem _ (List.mem_append_left _ (List.mem_append_left _ (List.mem_append_right _ h)))) 1 (by decide) (List.mem_of_getElem? (i := 2) rfl) rfl tyX3 tyX3_ok nmX3 rfl rfl rfl rfl rfl (Nat.le_of_ble_eq_true rfl) dX3_follow_7 ?_
  refine V_aload_n X 0 rfl dX3_follow_10 rfl ?_
  refine V_iconst X dX3_follow_11 ?_
  refine V_put X (ci := 3) (4) (by decide) (rfl) (by decide) rfl (fun _ h => List.mem_cons_of_mem _ (List.mem_append_left _ (List.mem_append_left _ (List.mem_append_right _ h)))) 2 (by decide) (List.mem_of_getElem? (i := 3) rfl) rfl tyX3 tyX3_ok nmX3 rfl rfl rfl rfl rfl (Nat.le_of_ble_eq_true rfl) dX3_follow_12 ?_
  refine V_aload_n X 0 rfl dX3_follow_15 rfl ?_
  refine V_iconst X dX3_follow_16 ?_
  refine V_put X (ci := 3) (4) (by decide) (rfl) (by decide) rfl (fun _ h => List.mem_cons_of_mem _ (List.mem_append_left _ (List.mem_append_left _ (List.mem_append_right _ h)))) 3 (by decide) (List.mem_of_getElem? (i := 4) rfl) rfl tyX3 tyX3_ok nmX3 rfl rfl rfl rfl rfl (Nat.le_of_ble_eq_true rfl) dX3_follow_17 ?_
  refine V_aload_n X 0 rfl dX3_follow_20 rfl ?_
  refine V_iconst X dX3_follow_21 ?_
  refine V_put X (ci := 3) (4) (by decide) (rfl) (by decide) rfl (fun _ h => List.mem_cons_of_mem _ (List.mem_append_left _ (List.mem_append_left _ (List.mem_append_right _ h)))) 4 (by decide) (List.mem_of_getElem? (i := 5) rfl) rfl tyX3 tyX3_ok nmX3 rfl rfl (iN_bool (Or.inl rfl)).1 (iN_bool (Or.inl rfl)).2 rfl (Nat.le_of_ble_eq_true rfl) dX3_follow_22 ?_
  refine V_iconst X dX3_follow_25 ?_
  refine V_istore X [(5, .int (iN (0))), (0, .ref (ga g (4))), (1, .ref (ga g (a))), (2, .int (iN (((n : Nat) : Int)))), (3, .ref (ga g (73 + 3 * t))), (4, .ref (ga g (85 + c)))] dX3_follow_26 (by decide) rfl ?_
  refine V_sub (lv' := [(0, .ref (ga g (4))), (1, .ref (ga g (a))), (2, .int (iN (((n : Nat) : Int)))), (3, .ref (ga g (73 + 3 * t))), (4, .ref (ga g (85 + c))), (5, .int (iN (0)))]) [1, 2, 3, 4, 5, 0] rfl ?_
  refine V_up (N := n) (fun (i : Nat) (u : St) (lw : List (Nat × Value)) => True ∧ [(0, .ref (ga g (4))), (1, .ref (ga g (a))), (2, .int (iN (((n : Nat) : Int)))), (3, .ref (ga g (73 + 3 * t))), (4, .ref (ga g (85 + c))), (5, .int (iN (((i : Nat) : Int))))] = lw ∧ (FlP σ t c k (σ.1 a) i u)) (Nat.zero_le _) ⟨trivial, rfl, fl_0 hR⟩ ?_ ?_
  · skip
    rintro u1 _ ⟨-, rfl, hv⟩
    refine V_iload X 5 rfl dX3_follow_28 ?_
    refine V_iload_n X 2 rfl dX3_follow_30 rfl ?_
    refine V_icmp_ge X 65 ⟨by omega, by omega⟩ ⟨by omega, by omega⟩ dX3_follow_31 (by decide) (fun _ => ?_) (fun h => absurd h (by omega))
    exact V_vret X hr (by exact hv) dX3_follow_65 (by decide) (by decide)
  · skip
    rintro i u1 _ hiN ⟨-, rfl, hv⟩ kk
    refine V_iload X 5 rfl dX3_follow_28 ?_
    refine V_iload_n X 2 rfl dX3_follow_30 rfl ?_
    refine V_icmp_ge X 65 ⟨by omega, by omega⟩ ⟨by omega, by omega⟩ dX3_follow_31 (by decide) (fun h => absurd h (by omega)) (fun _ => ?_)
    refine V_iload X 5 rfl dX3_follow_34 ?_
    refine V_aload_n X 1 rfl dX3_follow_36 rfl ?_
    refine V_alen X (ti := 0) (a) (ha) (hka) (by decide) (by decide) (hna) rfl dX3_follow_37 ?_
    refine V_top (b := 60) rfl ?_
    refine V_icmp_ge X 65 ⟨by omega, by omega⟩ ⟨by decide, by decide⟩ dX3_follow_38 (by decide) (fun h => absurd h (by omega)) (fun _ => ?_)
    refine V_aload_n X 0 rfl dX3_follow_41 rfl ?_
    refine V_get X (ci := 3) (4) (by decide) (rfl) (by decide) rfl (fun _ h => List.mem_cons_of_mem _ (List.mem_append_left _ (List.mem_append_left _ (List.mem_append_right _ h)))) 4 (by decide) (List.mem_of_getElem? (i := 5) rfl) rfl rfl dX3_follow_42 ?_
    refine V_if_ne X 65 (hv.1.2.2 4 4) dX3_follow_45 (by decide) (fun q1 => ?_) (fun q1 => ?_)
    · skip
      exact V_vret X hr (by exact fl_end hv (by omega) (Classical.byContradiction fun h => by have e := hv.2.2.2.2.1; rw [if_neg h] at e; omega)) dX3_follow_65 (by decide) (by decide)
    · skip
      refine V_aload_n X 0 rfl dX3_follow_48 rfl ?_
      refine V_aload_n X 1 rfl dX3_follow_49 rfl ?_
      refine V_iload X 5 rfl dX3_follow_50 ?_
      refine V_cald X (N := 60) (a) (ha) (hka) (hna) (by decide) (i) (rfl) (by omega) dX3_follow_52 ?_
      refine V_top (b := σ.1 a i) (by rw [hv.1.1 a ha4]) ?_
      refine V_aload_n X 3 rfl dX3_follow_53 rfl ?_
      refine V_aload X 4 rfl dX3_follow_54 ?_
      have hnov : ¬ (rideC σ t c k (σ.1 a) i).2.2.2 = true := fun h => by have e := hv.2.2.2.2.1; rw [if_pos h] at e; omega
      have hbd := fl_b hT hv
      refine V_callV_V X (na := 3) (ci := 3) (b0 := 4) (by decide) (rfl) (by decide) rfl (m_X3_move g l hl9 u1 hv.1.2.2 t c k (hT.fr hv.1) (σ.1 a i) (hR a i) hbd.1 (by omega) hbd.2.2.1 hbd.2.2.2.1 hbd.2.2.2.2.1 (by omega)) gX3_follow_X3_move rfl rfl rfl (by decide +kernel) ⟨Nat.le_of_ble_eq_true rfl, Nat.le_of_ble_eq_true rfl⟩ rfl rfl (Nat.le_of_ble_eq_true rfl) ⟨Nat.le_of_ble_eq_true rfl, Nat.le_of_ble_eq_true rfl⟩ dX3_follow_56 (fun u3 hp4 => ?_)
      have hv2 := fl_step hT hv hnov hp4
      refine V_iinc X [(5, .int (iN (((i : Nat) : Int) + 1))), (0, .ref (ga g (4))), (1, .ref (ga g (a))), (2, .int (iN (((n : Nat) : Int)))), (3, .ref (ga g (73 + 3 * t))), (4, .ref (ga g (85 + c)))] 5 (((i : Nat) : Int) + 1) (rfl) rfl dX3_follow_59 (by decide) rfl ?_
      refine V_goto X 28 dX3_follow_62 (by decide) ?_
      refine V_sub (lv' := [(0, .ref (ga g (4))), (1, .ref (ga g (a))), (2, .int (iN (((n : Nat) : Int)))), (3, .ref (ga g (73 + 3 * t))), (4, .ref (ga g (85 + c))), (5, .int (iN (((i : Nat) : Int) + 1)))]) [1, 2, 3, 4, 5, 0] rfl ?_
      refine V_lv (congrArg (fun q : Int => ([(0, .ref (ga g (4))), (1, .ref (ga g (a))), (2, .int (iN (((n : Nat) : Int)))), (3, .ref (ga g (73 + 3 * t))), (4, .ref (ga g (85 + c))), (5, .int (iN q))] : List (Nat × Value))) (show ((i : Nat) : Int) + 1 = (((i + 1) : Nat) : Int) from by omega)) ?_
      exact kk _ _ ⟨trivial, rfl, hv2⟩
