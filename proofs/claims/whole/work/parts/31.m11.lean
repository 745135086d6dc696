/-! ===== drive and isSound ===== -/
def rndF (σ : St) (tr : Int) : Int := if (0 ≤ σ.1 67 2 ∧ σ.1 67 2 < σ.1 67 1) ∧ σ.1 68 (σ.1 67 2).toNat = tr then σ.1 67 2 else -1
def dv0 (u : St) (n : Nat) (dr tr ca gh : Int) : St := sw (sw (sw (sw u (7 + 2 * n) 3 dr) (7 + 2 * n) 4 tr) (7 + 2 * n) 5 ca) (7 + 2 * n) 6 gh
def dv1 (u : St) (n : Nat) (dr tr ca gh : Int) : St := sw (dv0 u n dr tr ca gh) (7 + 2 * n) 7 (rndF u tr)
def keepF (σ : St) (j : Nat) : St := sw (sw (sw (cpyT σ (7 + 2 * j + 1) (σ.1 4 2).toNat) (7 + 2 * j) 1 (σ.1 4 2)) (7 + 2 * j) 2 (σ.1 4 3)) (7 + 2 * j) 9 1
def dv2 (u : St) (n : Nat) (dr tr ca gh : Int) : St := keepF (dv1 u n dr tr ca gh) n
def drvF (u : St) (n : Nat) (dr tr ca gh : Int) : St := sw (sw (addF (dv2 u n dr tr ca gh) n n (adB (dv2 u n dr tr ca gh) n n)) (73 + 3 * tr.toNat) 4 1) 0 5 0
theorem dv0_o {u : St} {n b : Nat} {dr tr ca gh : Int} (h : b ≠ 7 + 2 * n) : (dv0 u n dr tr ca gh).1 b = u.1 b := by
  unfold dv0
  rw [sw_ne h, sw_ne h, sw_ne h, sw_ne h]
theorem dv1_o {u : St} {n b : Nat} {dr tr ca gh : Int} (h : b ≠ 7 + 2 * n) : (dv1 u n dr tr ca gh).1 b = u.1 b := by
  unfold dv1
  rw [sw_ne h, dv0_o h]
theorem rndF_r {u : St} {tr : Int} (h : RG u) : R32 (rndF u tr) := by
  unfold rndF
  split
  · exact h _ _
  · exact ⟨by decide, by decide⟩
theorem dv0_RG {u : St} {n : Nat} {dr tr ca gh : Int} (h : RG u) (h1 : R32 dr) (h2 : R32 tr) (h3 : R32 ca) (h4 : R32 gh) : RG (dv0 u n dr tr ca gh) := (((h.sw _ _ h1).sw _ _ h2).sw _ _ h3).sw _ _ h4
theorem dv1_RG {u : St} {n : Nat} {dr tr ca gh : Int} (h : RG u) (h1 : R32 dr) (h2 : R32 tr) (h3 : R32 ca) (h4 : R32 gh) : RG (dv1 u n dr tr ca gh) := (dv0_RG h h1 h2 h3 h4).sw _ _ (rndF_r h)
theorem cpyT_RG {σ : St} {a i : Nat} (h : RG σ) : RG (cpyT σ a i) := by
  intro b k
  by_cases e : b = a
  · subst e
    simp only [cpyT, if_true]
    split
    · exact h _ _
    · exact h _ _
  · rw [cpyT_n e]; exact h _ _
theorem kp_RG {σ : St} {j : Nat} (h : RG σ) : RG (keepF σ j) := (((cpyT_RG h).sw _ _ (h _ _)).sw _ _ (h _ _)).sw _ _ ⟨by decide, by decide⟩
theorem kp_o {σ : St} {j b : Nat} (h : b ≠ 7 + 2 * j) (h2 : b ≠ 7 + 2 * j + 1) : (keepF σ j).1 b = σ.1 b := by
  unfold keepF
  rw [sw_ne h, sw_ne h, sw_ne h, cpyT_n h2]
theorem kp_1 {σ : St} {j : Nat} : (keepF σ j).1 (7 + 2 * j) 1 = σ.1 4 2 := by
  unfold keepF
  rw [rd_k (by decide), rd_k (by decide), rd_s]
theorem addF_5 {σ : St} {n j : Nat} {b : Int} : (addF σ n j b).1 5 1 = σ.1 5 1 + 1 := by
  unfold addF
  rw [rd_s]
def sndP (σ : St) (n j : Nat) : Prop := ((rdF σ (σ.1 (7 + 2 * j) 4).toNat (σ.1 (7 + 2 * j) 5).toNat (σ.1 (7 + 2 * j + 1)) (σ.1 (7 + 2 * j) 1).toNat).2.2.2 = true ∧ tmF (σ.1 (73 + 3 * (σ.1 (7 + 2 * j) 4).toNat) 3) (rdF σ (σ.1 (7 + 2 * j) 4).toNat (σ.1 (7 + 2 * j) 5).toNat (σ.1 (7 + 2 * j + 1)) (σ.1 (7 + 2 * j) 1).toNat) = σ.1 (7 + 2 * j) 2) ∧
  (0 ≤ σ.1 (7 + 2 * j) 10 → σ.1 (7 + 2 * j) 10 < n → ¬ σ.1 (7 + 2 * (σ.1 (7 + 2 * j) 10).toNat) 9 = 0) ∧ σ.1 (7 + 2 * j) 11 ≤ 5
theorem FlR.back {σ u v : St} {t c k : Nat} {inp : Nat → Int} (f : FrR σ u) (ht : t < 4) (hc : c < 4) (h : FlR u t c inp k v) : FlR σ t c inp k v := by
  unfold FlR FlP rideC at h ⊢
  rw [f.1 (73 + 3 * t) (by omega), f.1 (73 + 3 * t + 1) (by omega), f.1 (73 + 3 * t + 2) (by omega), f.1 (85 + c) (by omega)] at h
  exact ⟨f.tr h.1, h.2⟩

theorem atm_X6_drive_56 : ∀ w ∈ vx_atS RX6 56 "java/lang/IllegalStateException" ["java/lang/RuntimeException", "java/lang/Exception"], goodWord w = true → w ∈ wsX6_drive := fun w h0 hg0 => by
  have h := List.mem_filter.mpr ⟨h0, hg0⟩
  exact List.mem_cons_of_mem _ (List.mem_append_left _ (List.mem_append_left _ (List.mem_append_right _ h)))
theorem atm_X6_drive_113 : ∀ w ∈ vx_atN RX6 113 "java/util/NoSuchElementException" ["java/lang/RuntimeException", "java/lang/Exception"], goodWord w = true → w ∈ wsX6_drive := fun w h0 hg0 => by
  have h := List.mem_filter.mpr ⟨h0, hg0⟩
  exact List.mem_cons_of_mem _ (List.mem_append_left _ (List.mem_append_left _ (List.mem_append_left _ (List.mem_append_right _ h))))
set_option maxRecDepth 100000 in
set_option maxHeartbeats 4000000 in
theorem m_X6_drive (g : Geo) (l : Launch) (hl9 : l.stackTraces = false) (σ : St) (hR : RG σ) (dr tr ca gh : Int) (hdr : R32 dr) (htr : R32 tr) (hca : R32 ca) (hgh : R32 gh) (n : Nat) (hLB : LB σ n) (hTK : TK σ) (hT4 : σ.1 0 1 ≤ 4) (hC4 : σ.1 0 3 ≤ 4) (h10 : σ.1 67 1 ≤ 10) (ty : Nat) (hty : σ.1 0 5 = (ty : Int)) (hty60 : ty ≤ 60) (hch : ∀ i, i < 60 → 0 ≤ σ.1 3 i ∧ σ.1 3 i < 65536) : vx_Met l yX6_drive wsX6_drive ({ frames := 7, cells := 5, slots := 30, locals := 112 }) (va_Pc [.ref (ga g (0)), .int (iN (dr)), .int (iN (tr)), .int (iN (ca)), .int (iN (gh))] (World g σ)) (QI g (fun z u => ((0 ≤ dr ∧ dr < 6) ∧ (0 ≤ tr ∧ tr < σ.1 0 1) ∧ 0 ≤ ca ∧ ca < σ.1 0 3) ∧ (gh = -1 ∨ ((0 ≤ gh ∧ gh < σ.1 5 1) ∧ σ.1 (7 + 2 * gh.toNat) 4 = tr ∧ ¬ σ.1 (7 + 2 * gh.toNat) 9 = 0)) ∧ canD σ tr.toNat ca.toNat ty ∧ n < 30 ∧ z = (n : Int) ∧ ∃ v, FlR σ tr.toNat ca.toNat (σ.1 3) ty v ∧ u = drvF v n dr tr ca gh)) (XT g (fun E u => ((E = "java/lang/IndexOutOfBoundsException" ∧ ¬ ((0 ≤ dr ∧ dr < 6) ∧ (0 ≤ tr ∧ tr < σ.1 0 1) ∧ 0 ≤ ca ∧ ca < σ.1 0 3)) ∨ (E = "java/util/NoSuchElementException" ∧ ((0 ≤ dr ∧ dr < 6) ∧ (0 ≤ tr ∧ tr < σ.1 0 1) ∧ 0 ≤ ca ∧ ca < σ.1 0 3) ∧ ¬ (gh = -1 ∨ ((0 ≤ gh ∧ gh < σ.1 5 1) ∧ σ.1 (7 + 2 * gh.toNat) 4 = tr ∧ ¬ σ.1 (7 + 2 * gh.toNat) 9 = 0))) ∨ (E = "java/lang/UnsupportedOperationException" ∧ ((0 ≤ dr ∧ dr < 6) ∧ (0 ≤ tr ∧ tr < σ.1 0 1) ∧ 0 ≤ ca ∧ ca < σ.1 0 3) ∧ (gh = -1 ∨ ((0 ≤ gh ∧ gh < σ.1 5 1) ∧ σ.1 (7 + 2 * gh.toNat) 4 = tr ∧ ¬ σ.1 (7 + 2 * gh.toNat) 9 = 0)) ∧ ¬ canD σ tr.toNat ca.toNat ty) ∨ (E = "java/lang/IllegalStateException" ∧ ((0 ≤ dr ∧ dr < 6) ∧ (0 ≤ tr ∧ tr < σ.1 0 1) ∧ 0 ≤ ca ∧ ca < σ.1 0 3) ∧ (gh = -1 ∨ ((0 ≤ gh ∧ gh < σ.1 5 1) ∧ σ.1 (7 + 2 * gh.toNat) 4 = tr ∧ ¬ σ.1 (7 + 2 * gh.toNat) 9 = 0)) ∧ canD σ tr.toNat ca.toNat ty ∧ ¬ n < 30)) ∧ FrR σ u)) 5 30 (gA g) := by
  refine V_metX hl9 (by decide) rfl (Nat.le_of_ble_eq_true rfl) ?_
  intro p9 e9 s9 m9 b9 t9 c9 X hno hr
  have hn := hLB.1
  have hn30 : σ.1 5 1 ≤ 30 := by have := hLB.2.1; omega
  refine V_lv (lv' := [(0, .ref (ga g (0))), (1, .int (iN (dr))), (2, .int (iN (tr))), (3, .int (iN (ca))), (4, .int (iN (gh)))]) rfl ?_
  refine V_aload_n X 0 rfl dX6_drive_0 rfl ?_
  refine V_iload_n X 1 rfl dX6_drive_1 rfl ?_
  refine V_callV_Vx X (na := 1) (ci := 6) (b0 := 0) (by decide) (rfl) (by decide) rfl (m_X6_requireDriver g l hl9 σ hR dr hdr) gX6_drive_X6_requireDriver rfl rfl rfl (by decide +kernel) ⟨Nat.le_of_ble_eq_true rfl, Nat.le_of_ble_eq_true rfl⟩ rfl rfl (Nat.le_of_ble_eq_true rfl) ⟨Nat.le_of_ble_eq_true rfl, Nat.le_of_ble_eq_true rfl⟩ dX6_drive_2 (fun E u hp => ?_) (fun u2 hp3 => ?_)
  · skip
    exact VX_out X hno (⟨Or.inl ⟨hp.1, fun q => hp.2.1 q.1⟩, FrR.eq hR hp.2.2⟩) (by decide) (by decide)
  · skip
    obtain ⟨hd1, hd2, hu4⟩ := hp3
    have hu4 := hu4.symm
    subst hu4
    refine V_aload_n X 0 rfl dX6_drive_5 rfl ?_
    refine V_iload_n X 2 rfl dX6_drive_6 rfl ?_
    refine V_callV_Rx X (na := 1) (ci := 6) (b0 := 0) (by decide) (rfl) (by decide) rfl (m_X6_trackNumbered g l hl9 σ hR tr htr hT4) gX6_drive_X6_trackNumbered rfl rfl rfl (by decide +kernel) ⟨Nat.le_of_ble_eq_true rfl, Nat.le_of_ble_eq_true rfl⟩ rfl rfl (Nat.le_of_ble_eq_true rfl) ⟨Nat.le_of_ble_eq_true rfl, Nat.le_of_ble_eq_true rfl⟩ dX6_drive_7 (fun E u hp => ?_) (fun z5 u6 hp7 => ?_)
    · skip
      exact VX_out X hno (⟨Or.inl ⟨hp.1, fun q => hp.2.1 q.2.1⟩, FrR.eq hR hp.2.2⟩) (by decide) (by decide)
    · skip
      obtain ⟨h1, h2, hb, hu8⟩ := hp7
      have hu8 := hu8.symm
      subst hu8
      subst hb
      refine V_astore X [(5, .ref (ga g (73 + 3 * tr.toNat))), (0, .ref (ga g (0))), (1, .int (iN (dr))), (2, .int (iN (tr))), (3, .int (iN (ca))), (4, .int (iN (gh)))] dX6_drive_10 (by decide) rfl ?_
      refine V_aload_n X 1 rfl dX6_drive_12 rfl ?_
      refine V_iload_n X 4 rfl dX6_drive_13 rfl ?_
      refine V_callV_Rx X (na := 1) (ci := 6) (b0 := 0) (by decide) (rfl) (by decide) rfl (m_X6_carNumbered g l hl9 σ hR ca hca hC4) gX6_drive_X6_carNumbered rfl rfl rfl (by decide +kernel) ⟨Nat.le_of_ble_eq_true rfl, Nat.le_of_ble_eq_true rfl⟩ rfl rfl (Nat.le_of_ble_eq_true rfl) ⟨Nat.le_of_ble_eq_true rfl, Nat.le_of_ble_eq_true rfl⟩ dX6_drive_14 (fun E u hp => ?_) (fun z9 u10 hp11 => ?_)
      · skip
        exact VX_out X hno (⟨Or.inl ⟨hp.1, fun q => hp.2.1 q.2.2⟩, FrR.eq hR hp.2.2⟩) (by decide) (by decide)
      · skip
        obtain ⟨h3, h4, hb, hu12⟩ := hp11
        have hu12 := hu12.symm
        subst hu12
        subst hb
        refine V_astore X [(6, .ref (ga g (85 + ca.toNat))), (5, .ref (ga g (73 + 3 * tr.toNat))), (0, .ref (ga g (0))), (1, .int (iN (dr))), (2, .int (iN (tr))), (3, .int (iN (ca))), (4, .int (iN (gh)))] dX6_drive_17 (by decide) rfl ?_
        refine V_iload X 6 rfl dX6_drive_19 ?_
        refine V_iconst X dX6_drive_21 ?_
        refine V_icmp_eq X 48 hgh ⟨by decide, by decide⟩ dX6_drive_22 (by decide) (fun q13 => ?_) (fun q13 => ?_)
        · skip
          refine V_aload_n X 2 rfl dX6_drive_48 rfl ?_
          refine V_aload X 1 rfl dX6_drive_49 ?_
          refine V_aload X 0 rfl dX6_drive_51 ?_
          refine V_callV_Vx X (na := 2) (ci := 6) (b0 := 0) (by decide) (rfl) (by decide) rfl (m_X6_rideTyped g l hl9 σ hR tr.toNat ca.toNat (by omega) (by omega) (hTK _ _ (by omega) (by omega)) ty hty hty60) gX6_drive_X6_rideTyped rfl rfl rfl (by decide +kernel) ⟨Nat.le_of_ble_eq_true rfl, Nat.le_of_ble_eq_true rfl⟩ rfl rfl (Nat.le_of_ble_eq_true rfl) ⟨Nat.le_of_ble_eq_true rfl, Nat.le_of_ble_eq_true rfl⟩ dX6_drive_53 (fun E u hp => ?_) (fun u15 hp16 => ?_)
          · skip
            exact VX_out X hno (⟨Or.inr (Or.inr (Or.inl ⟨hp.1, ⟨⟨hd1, hd2⟩, ⟨h1, h2⟩, h3, h4⟩, by omega, hp.2.1⟩)), hp.2.2⟩) (by decide) (by decide)
          · skip
            obtain ⟨hcd, hf⟩ := hp16
            have hfb := fl_b (hTK tr.toNat ca.toNat (by omega) (by omega)) hf
            refine V_aload_n X 2 rfl dX6_drive_56 rfl ?_
            refine V_get X (ci := 6) (0) (by decide) (rfl) (by decide) rfl (fun _ h => List.mem_cons_of_mem _ (List.mem_append_left _ (List.mem_append_left _ (List.mem_append_left _ (List.mem_append_left _ (List.mem_append_left _ (List.mem_append_left _ (List.mem_append_left _ (List.mem_append_left _ (List.mem_append_left _ (List.mem_append_left _ (List.mem_append_right _ h)))))))))))) 7 (by decide) (List.mem_of_getElem? (i := 5) rfl) rfl rfl dX6_drive_57 ?_
            refine V_get X (ci := 0) (5) (by decide) (rfl) (by decide) rfl (fun _ h => List.mem_cons_of_mem _ (List.mem_append_left _ (List.mem_append_left _ (List.mem_append_left _ (List.mem_append_left _ (List.mem_append_left _ (List.mem_append_left _ (List.mem_append_left _ (List.mem_append_left _ (List.mem_append_left _ (List.mem_append_right _ h))))))))))) 1 (by decide) (List.mem_of_getElem? (i := 6) rfl) rfl rfl dX6_drive_60 ?_
            refine V_top (b := ((n : Nat) : Int)) (by rw [hf.fr.1 5 (by decide)]; exact hn) ?_
            refine V_bipush X (by decide) dX6_drive_63 ?_
            refine V_icmp_lt X 78 ⟨by omega, by omega⟩ ⟨by decide, by decide⟩ dX6_drive_65 (by decide) (fun q17 => ?_) (fun q17 => ?_)
            · skip
              refine V_aload_n X 2 rfl dX6_drive_78 rfl ?_
              refine V_get X (ci := 6) (0) (by decide) (rfl) (by decide) rfl (fun _ h => List.mem_cons_of_mem _ (List.mem_append_left _ (List.mem_append_left _ (List.mem_append_left _ (List.mem_append_left _ (List.mem_append_left _ (List.mem_append_left _ (List.mem_append_left _ (List.mem_append_left _ (List.mem_append_left _ (List.mem_append_left _ (List.mem_append_right _ h)))))))))))) 7 (by decide) (List.mem_of_getElem? (i := 5) rfl) rfl rfl dX6_drive_79 ?_
              refine V_get X (ci := 0) (5) (by decide) (rfl) (by decide) rfl (fun _ h => List.mem_cons_of_mem _ (List.mem_append_left _ (List.mem_append_left _ (List.mem_append_left _ (List.mem_append_left _ (List.mem_append_left _ (List.mem_append_left _ (List.mem_append_left _ (List.mem_append_left _ (List.mem_append_left _ (List.mem_append_right _ h))))))))))) 0 (by decide) (List.mem_of_getElem? (i := 7) rfl) rfl rfl dX6_drive_82 ?_
              refine V_aload_n X 2 rfl dX6_drive_85 rfl ?_
              refine V_get X (ci := 6) (0) (by decide) (rfl) (by decide) rfl (fun _ h => List.mem_cons_of_mem _ (List.mem_append_left _ (List.mem_append_left _ (List.mem_append_left _ (List.mem_append_left _ (List.mem_append_left _ (List.mem_append_left _ (List.mem_append_left _ (List.mem_append_left _ (List.mem_append_left _ (List.mem_append_left _ (List.mem_append_right _ h)))))))))))) 7 (by decide) (List.mem_of_getElem? (i := 5) rfl) rfl rfl dX6_drive_86 ?_
              refine V_get X (ci := 0) (5) (by decide) (rfl) (by decide) rfl (fun _ h => List.mem_cons_of_mem _ (List.mem_append_left _ (List.mem_append_left _ (List.mem_append_left _ (List.mem_append_left _ (List.mem_append_left _ (List.mem_append_left _ (List.mem_append_left _ (List.mem_append_left _ (List.mem_append_left _ (List.mem_append_right _ h))))))))))) 1 (by decide) (List.mem_of_getElem? (i := 6) rfl) rfl rfl dX6_drive_89 ?_
              refine V_top (b := ((n : Nat) : Int)) (by rw [hf.fr.1 5 (by decide)]; exact hn) ?_
              refine V_aald16 X (6) (by decide) (rfl) (n) (rfl) (by omega) dX6_drive_92 ?_
              refine V_astore X [(7, .ref (ga g (7 + 2 * n))), (6, .ref (ga g (85 + ca.toNat))), (5, .ref (ga g (73 + 3 * tr.toNat))), (0, .ref (ga g (0))), (1, .int (iN (dr))), (2, .int (iN (tr))), (3, .int (iN (ca))), (4, .int (iN (gh)))] dX6_drive_93 (by decide) rfl ?_
              refine V_aload X 0 rfl dX6_drive_95 ?_
              refine V_iload_n X 4 rfl dX6_drive_97 rfl ?_
              refine V_put X (ci := 2) (7 + 2 * n) (by omega) (kd_lap (by omega)) (by decide) rfl (fun _ h => List.mem_cons_of_mem _ (List.mem_append_left _ (List.mem_append_left _ (List.mem_append_left _ (List.mem_append_left _ (List.mem_append_left _ (List.mem_append_left _ (List.mem_append_left _ (List.mem_append_left _ (List.mem_append_right _ h)))))))))) 3 (by decide) (List.mem_of_getElem? (i := 8) rfl) rfl tyX2 tyX2_ok nmX2 rfl rfl rfl rfl rfl (Nat.le_of_ble_eq_true rfl) dX6_drive_98 ?_
              refine V_aload X 0 rfl dX6_drive_101 ?_
              refine V_iload_n X 5 rfl dX6_drive_103 rfl ?_
              refine V_put X (ci := 2) (7 + 2 * n) (by omega) (kd_lap (by omega)) (by decide) rfl (fun _ h => List.mem_cons_of_mem _ (List.mem_append_left _ (List.mem_append_left _ (List.mem_append_left _ (List.mem_append_left _ (List.mem_append_left _ (List.mem_append_left _ (List.mem_append_left _ (List.mem_append_left _ (List.mem_append_right _ h)))))))))) 4 (by decide) (List.mem_of_getElem? (i := 9) rfl) rfl tyX2 tyX2_ok nmX2 rfl rfl rfl rfl rfl (Nat.le_of_ble_eq_true rfl) dX6_drive_104 ?_
              refine V_aload X 0 rfl dX6_drive_107 ?_
              refine V_iload_n X 6 rfl dX6_drive_109 rfl ?_
              refine V_put X (ci := 2) (7 + 2 * n) (by omega) (kd_lap (by omega)) (by decide) rfl (fun _ h => List.mem_cons_of_mem _ (List.mem_append_left _ (List.mem_append_left _ (List.mem_append_left _ (List.mem_append_left _ (List.mem_append_left _ (List.mem_append_left _ (List.mem_append_left _ (List.mem_append_left _ (List.mem_append_right _ h)))))))))) 5 (by decide) (List.mem_of_getElem? (i := 10) rfl) rfl tyX2 tyX2_ok nmX2 rfl rfl rfl rfl rfl (Nat.le_of_ble_eq_true rfl) dX6_drive_110 ?_
              refine V_aload X 0 rfl dX6_drive_113 ?_
              refine V_iload X 7 rfl dX6_drive_115 ?_
              refine V_put X (ci := 2) (7 + 2 * n) (by omega) (kd_lap (by omega)) (by decide) rfl (fun _ h => List.mem_cons_of_mem _ (List.mem_append_left _ (List.mem_append_left _ (List.mem_append_left _ (List.mem_append_left _ (List.mem_append_left _ (List.mem_append_left _ (List.mem_append_left _ (List.mem_append_left _ (List.mem_append_right _ h)))))))))) 6 (by decide) (List.mem_of_getElem? (i := 11) rfl) rfl tyX2 tyX2_ok nmX2 rfl rfl rfl rfl rfl (Nat.le_of_ble_eq_true rfl) dX6_drive_117 ?_
              refine V_aload X 0 rfl dX6_drive_120 ?_
              refine V_aload_n X 3 rfl dX6_drive_122 rfl ?_
              refine V_get X (ci := 6) (0) (by decide) (rfl) (by decide) rfl (fun _ h => List.mem_cons_of_mem _ (List.mem_append_left _ (List.mem_append_left _ (List.mem_append_left _ (List.mem_append_left _ (List.mem_append_left _ (List.mem_append_left _ (List.mem_append_left _ (List.mem_append_left _ (List.mem_append_left _ (List.mem_append_left _ (List.mem_append_right _ h)))))))))))) 8 (by decide) (List.mem_of_getElem? (i := 12) rfl) rfl rfl dX6_drive_123 ?_
              refine V_iload_n X 5 rfl dX6_drive_126 rfl ?_
              have hRd := dv0_RG (n := n) hf.rg hdr htr hca hgh
              refine V_callV_I X (na := 1) (ci := 4) (b0 := 67) (by decide) (rfl) (by decide) rfl (m_X4_roundOn g l hl9 (dv0 u15 n dr tr ca gh) hRd tr htr (by rw [dv0_o (by omega), hf.fr.1 67 (by decide)]; exact h10)) gX6_drive_X4_roundOn rfl rfl rfl (by decide +kernel) ⟨Nat.le_of_ble_eq_true rfl, Nat.le_of_ble_eq_true rfl⟩ rfl rfl (Nat.le_of_ble_eq_true rfl) ⟨Nat.le_of_ble_eq_true rfl, Nat.le_of_ble_eq_true rfl⟩ dX6_drive_127 (fun z18 u19 z18r hp20 => ?_)
              obtain ⟨hz, hu21⟩ := hp20
              have hu21 := hu21.symm
              subst hu21
              have hz3 : z18 = rndF u15 tr := by rw [hz, dv0_o (by omega), dv0_o (by omega)]; rfl
              subst hz3
              refine V_put X (ci := 2) (7 + 2 * n) (by omega) (kd_lap (by omega)) (by decide) rfl (fun _ h => List.mem_cons_of_mem _ (List.mem_append_left _ (List.mem_append_left _ (List.mem_append_left _ (List.mem_append_left _ (List.mem_append_left _ (List.mem_append_left _ (List.mem_append_left _ (List.mem_append_left _ (List.mem_append_right _ h)))))))))) 7 (by decide) (List.mem_of_getElem? (i := 13) rfl) rfl tyX2 tyX2_ok nmX2 rfl rfl rfl rfl rfl (Nat.le_of_ble_eq_true rfl) dX6_drive_130 ?_
              refine V_aload X 0 rfl dX6_drive_133 ?_
              refine V_aload_n X 3 rfl dX6_drive_135 rfl ?_
              refine V_get X (ci := 6) (0) (by decide) (rfl) (by decide) rfl (fun _ h => List.mem_cons_of_mem _ (List.mem_append_left _ (List.mem_append_left _ (List.mem_append_left _ (List.mem_append_left _ (List.mem_append_left _ (List.mem_append_left _ (List.mem_append_left _ (List.mem_append_left _ (List.mem_append_left _ (List.mem_append_left _ (List.mem_append_right _ h)))))))))))) 6 (by decide) (List.mem_of_getElem? (i := 14) rfl) rfl rfl dX6_drive_136 ?_
              refine V_aload_n X 3 rfl dX6_drive_139 rfl ?_
              refine V_get X (ci := 6) (0) (by decide) (rfl) (by decide) rfl (fun _ h => List.mem_cons_of_mem _ (List.mem_append_left _ (List.mem_append_left _ (List.mem_append_left _ (List.mem_append_left _ (List.mem_append_left _ (List.mem_append_left _ (List.mem_append_left _ (List.mem_append_left _ (List.mem_append_left _ (List.mem_append_left _ (List.mem_append_right _ h)))))))))))) 4 (by decide) (List.mem_of_getElem? (i := 15) rfl) rfl rfl dX6_drive_140 ?_
              have hRe := dv1_RG (n := n) hf.rg hdr htr hca hgh
              have h42 : (dv1 u15 n dr tr ca gh).1 4 2 = u15.1 4 2 := by rw [dv1_o (by omega)]
              refine V_callV_V X (na := 2) (ci := 2) (b0 := 7 + 2 * n) (by omega) (kd_lap (by omega)) (by decide) rfl (m_X2_keep g l hl9 (dv1 u15 n dr tr ca gh) hRe n (by omega) ((dv1 u15 n dr tr ca gh).1 4 2).toNat (by omega) (by omega) (fun i hi => by rw [dv1_o (by omega), hf.fr.1 3 (by decide)]; exact hch i hi)) gX6_drive_X2_keep rfl rfl rfl (by decide +kernel) ⟨Nat.le_of_ble_eq_true rfl, Nat.le_of_ble_eq_true rfl⟩ rfl rfl (Nat.le_of_ble_eq_true rfl) ⟨Nat.le_of_ble_eq_true rfl, Nat.le_of_ble_eq_true rfl⟩ dX6_drive_143 (fun u23 hp24 => ?_)
              have hk2 : u23 = keepF (dv1 u15 n dr tr ca gh) n := hp24
              subst hk2
              refine V_aload_n X 3 rfl dX6_drive_146 rfl ?_
              refine V_get X (ci := 6) (0) (by decide) (rfl) (by decide) rfl (fun _ h => List.mem_cons_of_mem _ (List.mem_append_left _ (List.mem_append_left _ (List.mem_append_left _ (List.mem_append_left _ (List.mem_append_left _ (List.mem_append_left _ (List.mem_append_left _ (List.mem_append_left _ (List.mem_append_left _ (List.mem_append_left _ (List.mem_append_right _ h)))))))))))) 7 (by decide) (List.mem_of_getElem? (i := 5) rfl) rfl rfl dX6_drive_147 ?_
              refine V_aload X 0 rfl dX6_drive_150 ?_
              have hRk := kp_RG (j := n) hRe
              have h51 : (keepF (dv1 u15 n dr tr ca gh) n).1 5 1 = (n : Int) := by rw [kp_o (by omega) (by omega), dv1_o (by omega), hf.fr.1 5 (by omega)]; exact hn
              refine V_callV_V X (na := 1) (ci := 0) (b0 := 5) (by decide) (rfl) (by decide) rfl (m_X0_add g l hl9 (keepF (dv1 u15 n dr tr ca gh) n) hRk n (by omega) n h51 (by omega) ((dv1 u15 n dr tr ca gh).1 4 2).toNat (by rw [kp_1]; omega) (by omega) (fun l hl => by rw [kp_o (by omega) (by omega), dv1_o (by omega), hf.fr.1 (7 + 2 * l) (by omega)]; exact (hLB.2.2 l hl).2.1)) gX6_drive_X0_add rfl rfl rfl (by decide +kernel) ⟨Nat.le_of_ble_eq_true rfl, Nat.le_of_ble_eq_true rfl⟩ rfl rfl (Nat.le_of_ble_eq_true rfl) ⟨Nat.le_of_ble_eq_true rfl, Nat.le_of_ble_eq_true rfl⟩ dX6_drive_152 (fun u26 hp27 => ?_)
              have h52 : u26.1 5 1 = (n : Int) + 1 := by rw [hp27, addF_5, h51]
              refine V_aload X 2 rfl dX6_drive_155 ?_
              refine V_iconst X dX6_drive_157 ?_
              refine V_put X (ci := 5) (73 + 3 * tr.toNat) (by omega) (kd_tr (by omega)) (by decide) rfl (fun _ h => List.mem_cons_of_mem _ (List.mem_append_left _ (List.mem_append_left _ (List.mem_append_left _ (List.mem_append_left _ (List.mem_append_left _ (List.mem_append_left _ (List.mem_append_left _ (List.mem_append_right _ h))))))))) 4 (by decide) (List.mem_of_getElem? (i := 16) rfl) rfl tyX5 tyX5_ok nmX5 rfl rfl (iN_bool (Or.inr rfl)).1 (iN_bool (Or.inr rfl)).2 rfl (Nat.le_of_ble_eq_true rfl) dX6_drive_158 ?_
              refine V_aload_n X 3 rfl dX6_drive_161 rfl ?_
              refine V_iconst X dX6_drive_162 ?_
              refine V_put X (ci := 6) (0) (by decide) (rfl) (by decide) rfl (fun _ h => List.mem_cons_of_mem _ (List.mem_append_left _ (List.mem_append_left _ (List.mem_append_left _ (List.mem_append_left _ (List.mem_append_left _ (List.mem_append_left _ (List.mem_append_left _ (List.mem_append_left _ (List.mem_append_left _ (List.mem_append_left _ (List.mem_append_right _ h)))))))))))) 5 (by decide) (List.mem_of_getElem? (i := 17) rfl) rfl tyX6 tyX6_ok nmX6 rfl rfl rfl rfl rfl (Nat.le_of_ble_eq_true rfl) dX6_drive_163 ?_
              refine V_aload_n X 3 rfl dX6_drive_166 rfl ?_
              refine V_get X (ci := 6) (0) (by decide) (rfl) (by decide) rfl (fun _ h => List.mem_cons_of_mem _ (List.mem_append_left _ (List.mem_append_left _ (List.mem_append_left _ (List.mem_append_left _ (List.mem_append_left _ (List.mem_append_left _ (List.mem_append_left _ (List.mem_append_left _ (List.mem_append_left _ (List.mem_append_left _ (List.mem_append_right _ h)))))))))))) 7 (by decide) (List.mem_of_getElem? (i := 5) rfl) rfl rfl dX6_drive_167 ?_
              refine V_get X (ci := 0) (5) (by decide) (rfl) (by decide) rfl (fun _ h => List.mem_cons_of_mem _ (List.mem_append_left _ (List.mem_append_left _ (List.mem_append_left _ (List.mem_append_left _ (List.mem_append_left _ (List.mem_append_left _ (List.mem_append_left _ (List.mem_append_left _ (List.mem_append_left _ (List.mem_append_right _ h))))))))))) 1 (by decide) (List.mem_of_getElem? (i := 6) rfl) rfl rfl dX6_drive_170 ?_
              refine V_top (b := u26.1 5 1) (Eq.trans (rd_k (by decide)) (rd_k (by decide))) ?_
              refine V_top (b := (n : Int) + 1) h52 ?_
              refine V_iconst X dX6_drive_173 ?_
              refine V_isub X dX6_drive_174 ?_
              refine V_top (b := ((n : Nat) : Int)) (by omega) ?_
              exact V_iretX X hr rfl ⟨by omega, by omega⟩ (by exact ⟨⟨⟨hd1, hd2⟩, ⟨h1, h2⟩, h3, h4⟩, by omega, hcd, by omega, rfl, u15, hf, by rw [hp27]; rfl⟩) dX6_drive_175 (by decide) (by decide)
            · skip
              exact V_throw X hno rfl (List.mem_of_getElem? (i := 10) rfl) (by decide) (List.mem_of_getElem? (i := 3) rfl) (List.mem_of_getElem? (i := 4) rfl) (atm_X6_drive_56) gb_X6_56 (List.mem_of_getElem? (i := 0) rfl) (gd_X6_56) dX6_drive_68 dX6_drive_71 dX6_drive_72 dX6_drive_74 dX6_drive_77 (Nat.le_of_ble_eq_true rfl) (Nat.le_of_ble_eq_true rfl) (Nat.le_of_ble_eq_true rfl) (Nat.le_of_ble_eq_true rfl) (by decide) (by decide) (⟨Or.inr (Or.inr (Or.inr ⟨rfl, ⟨⟨hd1, hd2⟩, ⟨h1, h2⟩, h3, h4⟩, by omega, hcd, by omega⟩)), hf.fr⟩)
        · skip
          refine V_aload_n X 2 rfl dX6_drive_25 rfl ?_
          refine V_get X (ci := 6) (0) (by decide) (rfl) (by decide) rfl (fun _ h => List.mem_cons_of_mem _ (List.mem_append_left _ (List.mem_append_left _ (List.mem_append_left _ (List.mem_append_left _ (List.mem_append_left _ (List.mem_append_left _ (List.mem_append_left _ (List.mem_append_left _ (List.mem_append_left _ (List.mem_append_left _ (List.mem_append_right _ h)))))))))))) 7 (by decide) (List.mem_of_getElem? (i := 5) rfl) rfl rfl dX6_drive_26 ?_
          refine V_iload X 6 rfl dX6_drive_29 ?_
          refine V_iload_n X 4 rfl dX6_drive_31 rfl ?_
          refine V_callV_I X (na := 2) (ci := 0) (b0 := 5) (by decide) (rfl) (by decide) rfl (m_X0_hasGhost g l hl9 σ hR gh tr hgh htr hn30) gX6_drive_X0_hasGhost rfl rfl rfl (by decide +kernel) ⟨Nat.le_of_ble_eq_true rfl, Nat.le_of_ble_eq_true rfl⟩ rfl rfl (Nat.le_of_ble_eq_true rfl) ⟨Nat.le_of_ble_eq_true rfl, Nat.le_of_ble_eq_true rfl⟩ dX6_drive_32 (fun z28 u29 z28r hp30 => ?_)
          obtain ⟨hz9, hu31⟩ := hp30
          have hu31 := hu31.symm
          subst hu31
          rcases Classical.em ((0 ≤ gh ∧ gh < σ.1 5 1) ∧ σ.1 (7 + 2 * gh.toNat) 4 = tr ∧ ¬ σ.1 (7 + 2 * gh.toNat) 9 = 0) with hh | hh
          · skip
            rw [if_pos hh] at hz9
            subst hz9
            refine V_if_ne X 48 ⟨by decide, by decide⟩ dX6_drive_35 (by decide) (fun _ => ?_) (fun h => absurd h (by first | decide | omega))
            refine V_aload_n X 2 rfl dX6_drive_48 rfl ?_
            refine V_aload X 1 rfl dX6_drive_49 ?_
            refine V_aload X 0 rfl dX6_drive_51 ?_
            refine V_callV_Vx X (na := 2) (ci := 6) (b0 := 0) (by decide) (rfl) (by decide) rfl (m_X6_rideTyped g l hl9 σ hR tr.toNat ca.toNat (by omega) (by omega) (hTK _ _ (by omega) (by omega)) ty hty hty60) gX6_drive_X6_rideTyped rfl rfl rfl (by decide +kernel) ⟨Nat.le_of_ble_eq_true rfl, Nat.le_of_ble_eq_true rfl⟩ rfl rfl (Nat.le_of_ble_eq_true rfl) ⟨Nat.le_of_ble_eq_true rfl, Nat.le_of_ble_eq_true rfl⟩ dX6_drive_53 (fun E u hp => ?_) (fun u33 hp34 => ?_)
            · skip
              exact VX_out X hno (⟨Or.inr (Or.inr (Or.inl ⟨hp.1, ⟨⟨hd1, hd2⟩, ⟨h1, h2⟩, h3, h4⟩, by omega, hp.2.1⟩)), hp.2.2⟩) (by decide) (by decide)
            · skip
              obtain ⟨hcd, hf⟩ := hp34
              have hfb := fl_b (hTK tr.toNat ca.toNat (by omega) (by omega)) hf
              refine V_aload_n X 2 rfl dX6_drive_56 rfl ?_
              refine V_get X (ci := 6) (0) (by decide) (rfl) (by decide) rfl (fun _ h => List.mem_cons_of_mem _ (List.mem_append_left _ (List.mem_append_left _ (List.mem_append_left _ (List.mem_append_left _ (List.mem_append_left _ (List.mem_append_left _ (List.mem_append_left _ (List.mem_append_left _ (List.mem_append_left _ (List.mem_append_left _ (List.mem_append_right _ h)))))))))))) 7 (by decide) (List.mem_of_getElem? (i := 5) rfl) rfl rfl dX6_drive_57 ?_
              refine V_get X (ci := 0) (5) (by decide) (rfl) (by decide) rfl (fun _ h => List.mem_cons_of_mem _ (List.mem_append_left _ (List.mem_append_left _ (List.mem_append_left _ (List.mem_append_left _ (List.mem_append_left _ (List.mem_append_left _ (List.mem_append_left _ (List.mem_append_left _ (List.mem_append_left _ (List.mem_append_right _ h))))))))))) 1 (by decide) (List.mem_of_getElem? (i := 6) rfl) rfl rfl dX6_drive_60 ?_
              refine V_top (b := ((n : Nat) : Int)) (by rw [hf.fr.1 5 (by decide)]; exact hn) ?_
              refine V_bipush X (by decide) dX6_drive_63 ?_
              refine V_icmp_lt X 78 ⟨by omega, by omega⟩ ⟨by decide, by decide⟩ dX6_drive_65 (by decide) (fun q35 => ?_) (fun q35 => ?_)
              · skip
                refine V_aload_n X 2 rfl dX6_drive_78 rfl ?_
                refine V_get X (ci := 6) (0) (by decide) (rfl) (by decide) rfl (fun _ h => List.mem_cons_of_mem _ (List.mem_append_left _ (List.mem_append_left _ (List.mem_append_left _ (List.mem_append_left _ (List.mem_append_left _ (List.mem_append_left _ (List.mem_append_left _ (List.mem_append_left _ (List.mem_append_left _ (List.mem_append_left _ (List.mem_append_right _ h)))))))))))) 7 (by decide) (List.mem_of_getElem? (i := 5) rfl) rfl rfl dX6_drive_79 ?_
                refine V_get X (ci := 0) (5) (by decide) (rfl) (by decide) rfl (fun _ h => List.mem_cons_of_mem _ (List.mem_append_left _ (List.mem_append_left _ (List.mem_append_left _ (List.mem_append_left _ (List.mem_append_left _ (List.mem_append_left _ (List.mem_append_left _ (List.mem_append_left _ (List.mem_append_left _ (List.mem_append_right _ h))))))))))) 0 (by decide) (List.mem_of_getElem? (i := 7) rfl) rfl rfl dX6_drive_82 ?_
                refine V_aload_n X 2 rfl dX6_drive_85 rfl ?_
                refine V_get X (ci := 6) (0) (by decide) (rfl) (by decide) rfl (fun _ h => List.mem_cons_of_mem _ (List.mem_append_left _ (List.mem_append_left _ (List.mem_append_left _ (List.mem_append_left _ (List.mem_append_left _ (List.mem_append_left _ (List.mem_append_left _ (List.mem_append_left _ (List.mem_append_left _ (List.mem_append_left _ (List.mem_append_right _ h)))))))))))) 7 (by decide) (List.mem_of_getElem? (i := 5) rfl) rfl rfl dX6_drive_86 ?_
                refine V_get X (ci := 0) (5) (by decide) (rfl) (by decide) rfl (fun _ h => List.mem_cons_of_mem _ (List.mem_append_left _ (List.mem_append_left _ (List.mem_append_left _ (List.mem_append_left _ (List.mem_append_left _ (List.mem_append_left _ (List.mem_append_left _ (List.mem_append_left _ (List.mem_append_left _ (List.mem_append_right _ h))))))))))) 1 (by decide) (List.mem_of_getElem? (i := 6) rfl) rfl rfl dX6_drive_89 ?_
                refine V_top (b := ((n : Nat) : Int)) (by rw [hf.fr.1 5 (by decide)]; exact hn) ?_
                refine V_aald16 X (6) (by decide) (rfl) (n) (rfl) (by omega) dX6_drive_92 ?_
                refine V_astore X [(7, .ref (ga g (7 + 2 * n))), (6, .ref (ga g (85 + ca.toNat))), (5, .ref (ga g (73 + 3 * tr.toNat))), (0, .ref (ga g (0))), (1, .int (iN (dr))), (2, .int (iN (tr))), (3, .int (iN (ca))), (4, .int (iN (gh)))] dX6_drive_93 (by decide) rfl ?_
                refine V_aload X 0 rfl dX6_drive_95 ?_
                refine V_iload_n X 4 rfl dX6_drive_97 rfl ?_
                refine V_put X (ci := 2) (7 + 2 * n) (by omega) (kd_lap (by omega)) (by decide) rfl (fun _ h => List.mem_cons_of_mem _ (List.mem_append_left _ (List.mem_append_left _ (List.mem_append_left _ (List.mem_append_left _ (List.mem_append_left _ (List.mem_append_left _ (List.mem_append_left _ (List.mem_append_left _ (List.mem_append_right _ h)))))))))) 3 (by decide) (List.mem_of_getElem? (i := 8) rfl) rfl tyX2 tyX2_ok nmX2 rfl rfl rfl rfl rfl (Nat.le_of_ble_eq_true rfl) dX6_drive_98 ?_
                refine V_aload X 0 rfl dX6_drive_101 ?_
                refine V_iload_n X 5 rfl dX6_drive_103 rfl ?_
                refine V_put X (ci := 2) (7 + 2 * n) (by omega) (kd_lap (by omega)) (by decide) rfl (fun _ h => List.mem_cons_of_mem _ (List.mem_append_left _ (List.mem_append_left _ (List.mem_append_left _ (List.mem_append_left _ (List.mem_append_left _ (List.mem_append_left _ (List.mem_append_left _ (List.mem_append_left _ (List.mem_append_right _ h)))))))))) 4 (by decide) (List.mem_of_getElem? (i := 9) rfl) rfl tyX2 tyX2_ok nmX2 rfl rfl rfl rfl rfl (Nat.le_of_ble_eq_true rfl) dX6_drive_104 ?_
                refine V_aload X 0 rfl dX6_drive_107 ?_
                refine V_iload_n X 6 rfl dX6_drive_109 rfl ?_
                refine V_put X (ci := 2) (7 + 2 * n) (by omega) (kd_lap (by omega)) (by decide) rfl (fun _ h => List.mem_cons_of_mem _ (List.mem_append_left _ (List.mem_append_left _ (List.mem_append_left _ (List.mem_append_left _ (List.mem_append_left _ (List.mem_append_left _ (List.mem_append_left _ (List.mem_append_left _ (List.mem_append_right _ h)))))))))) 5 (by decide) (List.mem_of_getElem? (i := 10) rfl) rfl tyX2 tyX2_ok nmX2 rfl rfl rfl rfl rfl (Nat.le_of_ble_eq_true rfl) dX6_drive_110 ?_
                refine V_aload X 0 rfl dX6_drive_113 ?_
                refine V_iload X 7 rfl dX6_drive_115 ?_
                refine V_put X (ci := 2) (7 + 2 * n) (by omega) (kd_lap (by omega)) (by decide) rfl (fun _ h => List.mem_cons_of_mem _ (List.mem_append_left _ (List.mem_append_left _ (List.mem_append_left _ (List.mem_append_left _ (List.mem_append_left _ (List.mem_append_left _ (List.mem_append_left _ (List.mem_append_left _ (List.mem_append_right _ h)))))))))) 6 (by decide) (List.mem_of_getElem? (i := 11) rfl) rfl tyX2 tyX2_ok nmX2 rfl rfl rfl rfl rfl (Nat.le_of_ble_eq_true rfl) dX6_drive_117 ?_
                refine V_aload X 0 rfl dX6_drive_120 ?_
                refine V_aload_n X 3 rfl dX6_drive_122 rfl ?_
                refine V_get X (ci := 6) (0) (by decide) (rfl) (by decide) rfl (fun _ h => List.mem_cons_of_mem _ (List.mem_append_left _ (List.mem_append_left _ (List.mem_append_left _ (List.mem_append_left _ (List.mem_append_left _ (List.mem_append_left _ (List.mem_append_left _ (List.mem_append_left _ (List.mem_append_left _ (List.mem_append_left _ (List.mem_append_right _ h)))))))))))) 8 (by decide) (List.mem_of_getElem? (i := 12) rfl) rfl rfl dX6_drive_123 ?_
                refine V_iload_n X 5 rfl dX6_drive_126 rfl ?_
                have hRd := dv0_RG (n := n) hf.rg hdr htr hca hgh
                refine V_callV_I X (na := 1) (ci := 4) (b0 := 67) (by decide) (rfl) (by decide) rfl (m_X4_roundOn g l hl9 (dv0 u33 n dr tr ca gh) hRd tr htr (by rw [dv0_o (by omega), hf.fr.1 67 (by decide)]; exact h10)) gX6_drive_X4_roundOn rfl rfl rfl (by decide +kernel) ⟨Nat.le_of_ble_eq_true rfl, Nat.le_of_ble_eq_true rfl⟩ rfl rfl (Nat.le_of_ble_eq_true rfl) ⟨Nat.le_of_ble_eq_true rfl, Nat.le_of_ble_eq_true rfl⟩ dX6_drive_127 (fun z36 u37 z36r hp38 => ?_)
                obtain ⟨hz, hu39⟩ := hp38
                have hu39 := hu39.symm
                subst hu39
                have hz3 : z36 = rndF u33 tr := by rw [hz, dv0_o (by omega), dv0_o (by omega)]; rfl
                subst hz3
                refine V_put X (ci := 2) (7 + 2 * n) (by omega) (kd_lap (by omega)) (by decide) rfl (fun _ h => List.mem_cons_of_mem _ (List.mem_append_left _ (List.mem_append_left _ (List.mem_append_left _ (List.mem_append_left _ (List.mem_append_left _ (List.mem_append_left _ (List.mem_append_left _ (List.mem_append_left _ (List.mem_append_right _ h)))))))))) 7 (by decide) (List.mem_of_getElem? (i := 13) rfl) rfl tyX2 tyX2_ok nmX2 rfl rfl rfl rfl rfl (Nat.le_of_ble_eq_true rfl) dX6_drive_130 ?_
                refine V_aload X 0 rfl dX6_drive_133 ?_
                refine V_aload_n X 3 rfl dX6_drive_135 rfl ?_
                refine V_get X (ci := 6) (0) (by decide) (rfl) (by decide) rfl (fun _ h => List.mem_cons_of_mem _ (List.mem_append_left _ (List.mem_append_left _ (List.mem_append_left _ (List.mem_append_left _ (List.mem_append_left _ (List.mem_append_left _ (List.mem_append_left _ (List.mem_append_left _ (List.mem_append_left _ (List.mem_append_left _ (List.mem_append_right _ h)))))))))))) 6 (by decide) (List.mem_of_getElem? (i := 14) rfl) rfl rfl dX6_drive_136 ?_
                refine V_aload_n X 3 rfl dX6_drive_139 rfl ?_
                refine V_get X (ci := 6) (0) (by decide) (rfl) (by decide) rfl (fun _ h => List.mem_cons_of_mem _ (List.mem_append_left _ (List.mem_append_left _ (List.mem_append_left _ (List.mem_append_left _ (List.mem_append_left _ (List.mem_append_left _ (List.mem_append_left _ (List.mem_append_left _ (List.mem_append_left _ (List.mem_append_left _ (List.mem_append_right _ h)))))))))))) 4 (by decide) (List.mem_of_getElem? (i := 15) rfl) rfl rfl dX6_drive_140 ?_
                have hRe := dv1_RG (n := n) hf.rg hdr htr hca hgh
                have h42 : (dv1 u33 n dr tr ca gh).1 4 2 = u33.1 4 2 := by rw [dv1_o (by omega)]
                refine V_callV_V X (na := 2) (ci := 2) (b0 := 7 + 2 * n) (by omega) (kd_lap (by omega)) (by decide) rfl (m_X2_keep g l hl9 (dv1 u33 n dr tr ca gh) hRe n (by omega) ((dv1 u33 n dr tr ca gh).1 4 2).toNat (by omega) (by omega) (fun i hi => by rw [dv1_o (by omega), hf.fr.1 3 (by decide)]; exact hch i hi)) gX6_drive_X2_keep rfl rfl rfl (by decide +kernel) ⟨Nat.le_of_ble_eq_true rfl, Nat.le_of_ble_eq_true rfl⟩ rfl rfl (Nat.le_of_ble_eq_true rfl) ⟨Nat.le_of_ble_eq_true rfl, Nat.le_of_ble_eq_true rfl⟩ dX6_drive_143 (fun u41 hp42 => ?_)
                have hk2 : u41 = keepF (dv1 u33 n dr tr ca gh) n := hp42
                subst hk2
                refine V_aload_n X 3 rfl dX6_drive_146 rfl ?_
                refine V_get X (ci := 6) (0) (by decide) (rfl) (by decide) rfl (fun _ h => List.mem_cons_of_mem _ (List.mem_append_left _ (List.mem_append_left _ (List.mem_append_left _ (List.mem_append_left _ (List.mem_append_left _ (List.mem_append_left _ (List.mem_append_left _ (List.mem_append_left _ (List.mem_append_left _ (List.mem_append_left _ (List.mem_append_right _ h)))))))))))) 7 (by decide) (List.mem_of_getElem? (i := 5) rfl) rfl rfl dX6_drive_147 ?_
                refine V_aload X 0 rfl dX6_drive_150 ?_
                have hRk := kp_RG (j := n) hRe
                have h51 : (keepF (dv1 u33 n dr tr ca gh) n).1 5 1 = (n : Int) := by rw [kp_o (by omega) (by omega), dv1_o (by omega), hf.fr.1 5 (by omega)]; exact hn
                refine V_callV_V X (na := 1) (ci := 0) (b0 := 5) (by decide) (rfl) (by decide) rfl (m_X0_add g l hl9 (keepF (dv1 u33 n dr tr ca gh) n) hRk n (by omega) n h51 (by omega) ((dv1 u33 n dr tr ca gh).1 4 2).toNat (by rw [kp_1]; omega) (by omega) (fun l hl => by rw [kp_o (by omega) (by omega), dv1_o (by omega), hf.fr.1 (7 + 2 * l) (by omega)]; exact (hLB.2.2 l hl).2.1)) gX6_drive_X0_add rfl rfl rfl (by decide +kernel) ⟨Nat.le_of_ble_eq_true rfl, Nat.le_of_ble_eq_true rfl⟩ rfl rfl (Nat.le_of_ble_eq_true rfl) ⟨Nat.le_of_ble_eq_true rfl, Nat.le_of_ble_eq_true rfl⟩ dX6_drive_152 (fun u44 hp45 => ?_)
                have h52 : u44.1 5 1 = (n : Int) + 1 := by rw [hp45, addF_5, h51]
                refine V_aload X 2 rfl dX6_drive_155 ?_
                refine V_iconst X dX6_drive_157 ?_
                refine V_put X (ci := 5) (73 + 3 * tr.toNat) (by omega) (kd_tr (by omega)) (by decide) rfl (fun _ h => List.mem_cons_of_mem _ (List.mem_append_left _ (List.mem_append_left _ (List.mem_append_left _ (List.mem_append_left _ (List.mem_append_left _ (List.mem_append_left _ (List.mem_append_left _ (List.mem_append_right _ h))))))))) 4 (by decide) (List.mem_of_getElem? (i := 16) rfl) rfl tyX5 tyX5_ok nmX5 rfl rfl (iN_bool (Or.inr rfl)).1 (iN_bool (Or.inr rfl)).2 rfl (Nat.le_of_ble_eq_true rfl) dX6_drive_158 ?_
                refine V_aload_n X 3 rfl dX6_drive_161 rfl ?_
                refine V_iconst X dX6_drive_162 ?_
                refine V_put X (ci := 6) (0) (by decide) (rfl) (by decide) rfl (fun _ h => List.mem_cons_of_mem _ (List.mem_append_left _ (List.mem_append_left _ (List.mem_append_left _ (List.mem_append_left _ (List.mem_append_left _ (List.mem_append_left _ (List.mem_append_left _ (List.mem_append_left _ (List.mem_append_left _ (List.mem_append_left _ (List.mem_append_right _ h)))))))))))) 5 (by decide) (List.mem_of_getElem? (i := 17) rfl) rfl tyX6 tyX6_ok nmX6 rfl rfl rfl rfl rfl (Nat.le_of_ble_eq_true rfl) dX6_drive_163 ?_
                refine V_aload_n X 3 rfl dX6_drive_166 rfl ?_
                refine V_get X (ci := 6) (0) (by decide) (rfl) (by decide) rfl (fun _ h => List.mem_cons_of_mem _ (List.mem_append_left _ (List.mem_append_left _ (List.mem_append_left _ (List.mem_append_left _ (List.mem_append_left _ (List.mem_append_left _ (List.mem_append_left _ (List.mem_append_left _ (List.mem_append_left _ (List.mem_append_left _ (List.mem_append_right _ h)))))))))))) 7 (by decide) (List.mem_of_getElem? (i := 5) rfl) rfl rfl dX6_drive_167 ?_
                refine V_get X (ci := 0) (5) (by decide) (rfl) (by decide) rfl (fun _ h => List.mem_cons_of_mem _ (List.mem_append_left _ (List.mem_append_left _ (List.mem_append_left _ (List.mem_append_left _ (List.mem_append_left _ (List.mem_append_left _ (List.mem_append_left _ (List.mem_append_left _ (List.mem_append_left _ (List.mem_append_right _ h))))))))))) 1 (by decide) (List.mem_of_getElem? (i := 6) rfl) rfl rfl dX6_drive_170 ?_
                refine V_top (b := u44.1 5 1) (Eq.trans (rd_k (by decide)) (rd_k (by decide))) ?_
                refine V_top (b := (n : Int) + 1) h52 ?_
                refine V_iconst X dX6_drive_173 ?_
                refine V_isub X dX6_drive_174 ?_
                refine V_top (b := ((n : Nat) : Int)) (by omega) ?_
                exact V_iretX X hr rfl ⟨by omega, by omega⟩ (by exact ⟨⟨⟨hd1, hd2⟩, ⟨h1, h2⟩, h3, h4⟩, by omega, hcd, by omega, rfl, u33, hf, by rw [hp45]; rfl⟩) dX6_drive_175 (by decide) (by decide)
              · skip
                exact V_throw X hno rfl (List.mem_of_getElem? (i := 10) rfl) (by decide) (List.mem_of_getElem? (i := 3) rfl) (List.mem_of_getElem? (i := 4) rfl) (atm_X6_drive_56) gb_X6_56 (List.mem_of_getElem? (i := 0) rfl) (gd_X6_56) dX6_drive_68 dX6_drive_71 dX6_drive_72 dX6_drive_74 dX6_drive_77 (Nat.le_of_ble_eq_true rfl) (Nat.le_of_ble_eq_true rfl) (Nat.le_of_ble_eq_true rfl) (Nat.le_of_ble_eq_true rfl) (by decide) (by decide) (⟨Or.inr (Or.inr (Or.inr ⟨rfl, ⟨⟨hd1, hd2⟩, ⟨h1, h2⟩, h3, h4⟩, by omega, hcd, by omega⟩)), hf.fr⟩)
          · skip
            rw [if_neg hh] at hz9
            subst hz9
            refine V_if_ne X 48 ⟨by decide, by decide⟩ dX6_drive_35 (by decide) (fun h => absurd h (by first | decide | omega)) (fun _ => ?_)
            exact V_throwN X hno rfl (List.mem_of_getElem? (i := 9) rfl) (by decide) (List.mem_of_getElem? (i := 1) rfl) (List.mem_of_getElem? (i := 2) rfl) (atm_X6_drive_113) gb_X6_113 (List.mem_of_getElem? (i := 4) rfl) (gd_X6_113) dX6_drive_38 dX6_drive_41 dX6_drive_42 dX6_drive_44 dX6_drive_47 (Nat.le_of_ble_eq_true rfl) (Nat.le_of_ble_eq_true rfl) (Nat.le_of_ble_eq_true rfl) (Nat.le_of_ble_eq_true rfl) (by decide) (by decide) (⟨Or.inr (Or.inl ⟨rfl, ⟨⟨hd1, hd2⟩, ⟨h1, h2⟩, h3, h4⟩, by omega⟩), FrR.rf hR⟩)
set_option maxRecDepth 100000 in
set_option maxHeartbeats 4000000 in
theorem m_X6_isSound (g : Geo) (l : Launch) (hl9 : l.stackTraces = false) (σ : St) (hR : RG σ) (n : Nat) (hLB : LB σ n) (hTK : TK σ) (hT4 : σ.1 0 1 ≤ 4) (hC4 : σ.1 0 3 ≤ 4) (hlt : ∀ l, l < n → (0 ≤ σ.1 (7 + 2 * l) 4 ∧ σ.1 (7 + 2 * l) 4 < σ.1 0 1) ∧ 0 ≤ σ.1 (7 + 2 * l) 5 ∧ σ.1 (7 + 2 * l) 5 < σ.1 0 3) (hsn : ∀ l, l < n → sndP σ n l) : Met l yX6_isSound wsX6_isSound ({ frames := 5, cells := 0, slots := 0, locals := 112 }) (va_Pc [.ref (ga g (0))] (World g σ)) (QI g (fun z u => z = 1 ∧ FrR σ u)) 0 0 (gA g) := by
  refine V_met hl9 (by decide) rfl (Nat.le_of_ble_eq_true rfl) ?_
  intro p9 e9 s9 m9 b9 t9 c9 X hr _
  have hn := hLB.1
  have hn30 : σ.1 5 1 ≤ 30 := by have := hLB.2.1; omega
  refine V_lv (lv' := [(0, .ref (ga g (0)))]) rfl ?_
  refine V_iconst X dX6_isSound_0 ?_
  refine V_istore_n X [(1, .int (iN (0))), (0, .ref (ga g (0)))] dX6_isSound_1 rfl (by decide) rfl ?_
  refine V_sub (lv' := [(0, .ref (ga g (0))), (1, .int (iN (0)))]) [1, 0] rfl ?_
  refine V_up (N := n) (fun (i : Nat) (u : St) (lw : List (Nat × Value)) => True ∧ [(0, .ref (ga g (0))), (1, .int (iN (((i : Nat) : Int))))] = lw ∧ (FrR σ u)) (i0 := 0) (Nat.zero_le _) ⟨trivial, rfl, FrR.rf hR⟩ ?_ ?_
  · skip
    rintro u1 _ ⟨-, rfl, hv⟩
    refine V_iload_n X 1 rfl dX6_isSound_2 rfl ?_
    refine V_aload_n X 0 rfl dX6_isSound_3 rfl ?_
    refine V_get X (ci := 6) (0) (by decide) (rfl) (by decide) rfl (fun _ h => List.mem_cons_of_mem _ (List.mem_append_left _ (List.mem_append_left _ (List.mem_append_left _ (List.mem_append_left _ (List.mem_append_left _ (List.mem_append_left _ (List.mem_append_right _ h)))))))) 7 (by decide) (List.mem_of_getElem? (i := 1) rfl) rfl rfl dX6_isSound_4 ?_
    refine V_get X (ci := 0) (5) (by decide) (rfl) (by decide) rfl (fun _ h => List.mem_cons_of_mem _ (List.mem_append_left _ (List.mem_append_left _ (List.mem_append_left _ (List.mem_append_left _ (List.mem_append_left _ (List.mem_append_right _ h))))))) 1 (by decide) (List.mem_of_getElem? (i := 2) rfl) rfl rfl dX6_isSound_7 ?_
    refine V_top (b := ((n : Nat) : Int)) (by rw [hv.1 5 (by decide)]; exact hn) ?_
    refine V_icmp_ge X 126 ⟨by omega, by omega⟩ ⟨by omega, by omega⟩ dX6_isSound_10 (by decide) (fun _ => ?_) (fun h => absurd h (by omega))
    refine V_iconst X dX6_isSound_126 ?_
    exact V_iret X hr (iN_bool (Or.inr rfl)).1 ⟨by decide, by decide⟩ (by exact ⟨rfl, hv⟩) dX6_isSound_127 (by decide) (by decide)
  · skip
    rintro i u1 _ hiN ⟨-, rfl, hv⟩ kk
    refine V_iload_n X 1 rfl dX6_isSound_2 rfl ?_
    refine V_aload_n X 0 rfl dX6_isSound_3 rfl ?_
    refine V_get X (ci := 6) (0) (by decide) (rfl) (by decide) rfl (fun _ h => List.mem_cons_of_mem _ (List.mem_append_left _ (List.mem_append_left _ (List.mem_append_left _ (List.mem_append_left _ (List.mem_append_left _ (List.mem_append_left _ (List.mem_append_right _ h)))))))) 7 (by decide) (List.mem_of_getElem? (i := 1) rfl) rfl rfl dX6_isSound_4 ?_
    refine V_get X (ci := 0) (5) (by decide) (rfl) (by decide) rfl (fun _ h => List.mem_cons_of_mem _ (List.mem_append_left _ (List.mem_append_left _ (List.mem_append_left _ (List.mem_append_left _ (List.mem_append_left _ (List.mem_append_right _ h))))))) 1 (by decide) (List.mem_of_getElem? (i := 2) rfl) rfl rfl dX6_isSound_7 ?_
    refine V_top (b := ((n : Nat) : Int)) (by rw [hv.1 5 (by decide)]; exact hn) ?_
    refine V_icmp_ge X 126 ⟨by omega, by omega⟩ ⟨by omega, by omega⟩ dX6_isSound_10 (by decide) (fun h => absurd h (by omega)) (fun _ => ?_)
    refine V_aload_n X 0 rfl dX6_isSound_13 rfl ?_
    refine V_get X (ci := 6) (0) (by decide) (rfl) (by decide) rfl (fun _ h => List.mem_cons_of_mem _ (List.mem_append_left _ (List.mem_append_left _ (List.mem_append_left _ (List.mem_append_left _ (List.mem_append_left _ (List.mem_append_left _ (List.mem_append_right _ h)))))))) 7 (by decide) (List.mem_of_getElem? (i := 1) rfl) rfl rfl dX6_isSound_14 ?_
    refine V_get X (ci := 0) (5) (by decide) (rfl) (by decide) rfl (fun _ h => List.mem_cons_of_mem _ (List.mem_append_left _ (List.mem_append_left _ (List.mem_append_left _ (List.mem_append_left _ (List.mem_append_left _ (List.mem_append_right _ h))))))) 0 (by decide) (List.mem_of_getElem? (i := 3) rfl) rfl rfl dX6_isSound_17 ?_
    refine V_iload_n X 1 rfl dX6_isSound_20 rfl ?_
    refine V_aald16 X (6) (by decide) (rfl) (i) (rfl) (by omega) dX6_isSound_21 ?_
    refine V_astore_n X [(2, .ref (ga g (7 + 2 * i))), (0, .ref (ga g (0))), (1, .int (iN (((i : Nat) : Int))))] dX6_isSound_22 rfl (by decide) rfl ?_
    refine V_aload_n X 1 rfl dX6_isSound_23 rfl ?_
    refine V_aload_n X 0 rfl dX6_isSound_24 rfl ?_
    refine V_aload_n X 0 rfl dX6_isSound_25 rfl ?_
    refine V_get X (ci := 2) (7 + 2 * i) (by omega) (kd_lap (by omega)) (by decide) rfl (fun _ h => List.mem_cons_of_mem _ (List.mem_append_left _ (List.mem_append_left _ (List.mem_append_left _ (List.mem_append_left _ (List.mem_append_right _ h)))))) 1 (by decide) (List.mem_of_getElem? (i := 4) rfl) rfl rfl dX6_isSound_26 ?_
    have hrow := hLB.2.2 i hiN
    have hrt := hlt i hiN
    have hsd := hsn i hiN
    have hr1 := hrow.1
    have hr2 := hrow.2.1
    have hri := hv.1 (7 + 2 * i) (by omega)
    refine V_top (b := (((σ.1 (7 + 2 * i) 1).toNat : Nat) : Int)) (by rw [hri]; omega) ?_
    refine V_callV_V X (na := 2) (ci := 6) (b0 := 0) (by decide) (rfl) (by decide) rfl (m_X6_rideAgain g l hl9 u1 hv.2.2 i (by omega) (σ.1 (7 + 2 * i) 1).toNat (by omega) (hTK.fr hv) (by rw [hv.1 0 (by decide)]; exact hT4) (by rw [hv.1 0 (by decide)]; exact hC4) (by rw [hri]; exact hrt.1.1) (by rw [hri, hv.1 0 (by decide)]; exact hrt.1.2) (by rw [hri]; exact hrt.2.1) (by rw [hri, hv.1 0 (by decide)]; exact hrt.2.2)) gX6_isSound_X6_rideAgain rfl rfl rfl (by decide +kernel) ⟨Nat.le_of_ble_eq_true rfl, Nat.le_of_ble_eq_true rfl⟩ rfl rfl (Nat.le_of_ble_eq_true rfl) ⟨Nat.le_of_ble_eq_true rfl, Nat.le_of_ble_eq_true rfl⟩ dX6_isSound_29 (fun u2 hp3 => ?_)
    rw [hri, hv.1 (7 + 2 * i + 1) (by omega)] at hp3
    have hf := FlR.back hv (by omega) (by omega) hp3
    refine V_aload_n X 1 rfl dX6_isSound_32 rfl ?_
    refine V_get X (ci := 6) (0) (by decide) (rfl) (by decide) rfl (fun _ h => List.mem_cons_of_mem _ (List.mem_append_left _ (List.mem_append_left _ (List.mem_append_left _ (List.mem_append_left _ (List.mem_append_left _ (List.mem_append_left _ (List.mem_append_right _ h)))))))) 6 (by decide) (List.mem_of_getElem? (i := 5) rfl) rfl rfl dX6_isSound_33 ?_
    refine V_get X (ci := 3) (4) (by decide) (rfl) (by decide) rfl (fun _ h => List.mem_cons_of_mem _ (List.mem_append_left _ (List.mem_append_left _ (List.mem_append_left _ (List.mem_append_right _ h))))) 4 (by decide) (List.mem_of_getElem? (i := 6) rfl) rfl rfl dX6_isSound_36 ?_
    refine V_top (b := 1) (hf.ov.trans (if_pos hsd.1.1)) ?_
    refine V_if_eq X 60 ⟨by decide, by decide⟩ dX6_isSound_39 (by decide) (fun h => absurd h (by first | decide | omega)) (fun _ => ?_)
    refine V_aload_n X 1 rfl dX6_isSound_42 rfl ?_
    refine V_get X (ci := 6) (0) (by decide) (rfl) (by decide) rfl (fun _ h => List.mem_cons_of_mem _ (List.mem_append_left _ (List.mem_append_left _ (List.mem_append_left _ (List.mem_append_left _ (List.mem_append_left _ (List.mem_append_left _ (List.mem_append_right _ h)))))))) 6 (by decide) (List.mem_of_getElem? (i := 5) rfl) rfl rfl dX6_isSound_43 ?_
    refine V_get X (ci := 3) (4) (by decide) (rfl) (by decide) rfl (fun _ h => List.mem_cons_of_mem _ (List.mem_append_left _ (List.mem_append_left _ (List.mem_append_left _ (List.mem_append_right _ h))))) 3 (by decide) (List.mem_of_getElem? (i := 7) rfl) rfl rfl dX6_isSound_46 ?_
    refine V_top (b := σ.1 (7 + 2 * i) 2) (hf.2.2.2.2.2.trans hsd.1.2) ?_
    refine V_aload_n X 0 rfl dX6_isSound_49 rfl ?_
    refine V_get X (ci := 2) (7 + 2 * i) (by omega) (kd_lap (by omega)) (by decide) rfl (fun _ h => List.mem_cons_of_mem _ (List.mem_append_left _ (List.mem_append_left _ (List.mem_append_left _ (List.mem_append_left _ (List.mem_append_right _ h)))))) 2 (by decide) (List.mem_of_getElem? (i := 8) rfl) rfl rfl dX6_isSound_50 ?_
    refine V_top (b := σ.1 (7 + 2 * i) 2) (by rw [hf.fr.1 (7 + 2 * i) (by omega)]) ?_
    refine V_icmp_ne X 60 (hR _ _) (hR _ _) dX6_isSound_53 (by decide) (fun h => absurd h (fun z => z rfl)) (fun _ => ?_)
    refine V_iconst X dX6_isSound_56 ?_
    refine V_goto X 61 dX6_isSound_57 (by decide) ?_
    refine V_istore_n X [(3, .int (iN (1))), (2, .ref (ga g (7 + 2 * i))), (0, .ref (ga g (0))), (1, .int (iN (((i : Nat) : Int))))] dX6_isSound_61 rfl (by decide) rfl ?_
    refine V_aload_n X 2 rfl dX6_isSound_62 rfl ?_
    refine V_get X (ci := 6) (0) (by decide) (rfl) (by decide) rfl (fun _ h => List.mem_cons_of_mem _ (List.mem_append_left _ (List.mem_append_left _ (List.mem_append_left _ (List.mem_append_left _ (List.mem_append_left _ (List.mem_append_left _ (List.mem_append_right _ h)))))))) 7 (by decide) (List.mem_of_getElem? (i := 1) rfl) rfl rfl dX6_isSound_63 ?_
    refine V_aload_n X 1 rfl dX6_isSound_66 rfl ?_
    refine V_get X (ci := 2) (7 + 2 * i) (by omega) (kd_lap (by omega)) (by decide) rfl (fun _ h => List.mem_cons_of_mem _ (List.mem_append_left _ (List.mem_append_left _ (List.mem_append_left _ (List.mem_append_left _ (List.mem_append_right _ h)))))) 10 (by decide) (List.mem_of_getElem? (i := 9) rfl) rfl rfl dX6_isSound_67 ?_
    refine V_top (b := σ.1 (7 + 2 * i) 10) (by rw [hf.fr.1 (7 + 2 * i) (by omega)]) ?_
    refine V_callV_I X (na := 1) (ci := 0) (b0 := 5) (by decide) (rfl) (by decide) rfl (m_X0_has g l hl9 u2 hf.rg (σ.1 (7 + 2 * i) 10) (hR _ _)) gX6_isSound_X0_has rfl rfl rfl (by decide +kernel) ⟨Nat.le_of_ble_eq_true rfl, Nat.le_of_ble_eq_true rfl⟩ rfl rfl (Nat.le_of_ble_eq_true rfl) ⟨Nat.le_of_ble_eq_true rfl, Nat.le_of_ble_eq_true rfl⟩ dX6_isSound_70 (fun z4 u5 z4r hp6 => ?_)
    obtain ⟨hz9, hu7⟩ := hp6
    have hu7 := hu7.symm
    subst hu7
    rw [hf.fr.1 5 (by decide)] at hz9
    rcases Classical.em (0 ≤ σ.1 (7 + 2 * i) 10 ∧ σ.1 (7 + 2 * i) 10 < σ.1 5 1) with hh | hh
    · skip
      rw [if_pos hh] at hz9
      subst hz9
      refine V_if_eq X 98 ⟨by decide, by decide⟩ dX6_isSound_73 (by decide) (fun h => absurd h (by first | decide | omega)) (fun _ => ?_)
      refine V_aload_n X 2 rfl dX6_isSound_76 rfl ?_
      refine V_get X (ci := 6) (0) (by decide) (rfl) (by decide) rfl (fun _ h => List.mem_cons_of_mem _ (List.mem_append_left _ (List.mem_append_left _ (List.mem_append_left _ (List.mem_append_left _ (List.mem_append_left _ (List.mem_append_left _ (List.mem_append_right _ h)))))))) 7 (by decide) (List.mem_of_getElem? (i := 1) rfl) rfl rfl dX6_isSound_77 ?_
      refine V_get X (ci := 0) (5) (by decide) (rfl) (by decide) rfl (fun _ h => List.mem_cons_of_mem _ (List.mem_append_left _ (List.mem_append_left _ (List.mem_append_left _ (List.mem_append_left _ (List.mem_append_left _ (List.mem_append_right _ h))))))) 0 (by decide) (List.mem_of_getElem? (i := 3) rfl) rfl rfl dX6_isSound_80 ?_
      refine V_aload_n X 1 rfl dX6_isSound_83 rfl ?_
      refine V_get X (ci := 2) (7 + 2 * i) (by omega) (kd_lap (by omega)) (by decide) rfl (fun _ h => List.mem_cons_of_mem _ (List.mem_append_left _ (List.mem_append_left _ (List.mem_append_left _ (List.mem_append_left _ (List.mem_append_right _ h)))))) 10 (by decide) (List.mem_of_getElem? (i := 9) rfl) rfl rfl dX6_isSound_84 ?_
      refine V_top (b := σ.1 (7 + 2 * i) 10) (by rw [hf.fr.1 (7 + 2 * i) (by omega)]) ?_
      refine V_aald16 X (6) (by decide) (rfl) ((σ.1 (7 + 2 * i) 10).toNat) (by omega) (by omega) dX6_isSound_87 ?_
      refine V_get X (ci := 2) (7 + 2 * ((σ.1 (7 + 2 * i) 10).toNat)) (by omega) (kd_lap (by omega)) (by decide) rfl (fun _ h => List.mem_cons_of_mem _ (List.mem_append_left _ (List.mem_append_left _ (List.mem_append_left _ (List.mem_append_left _ (List.mem_append_right _ h)))))) 9 (by decide) (List.mem_of_getElem? (i := 10) rfl) rfl rfl dX6_isSound_88 ?_
      refine V_top (b := σ.1 (7 + 2 * (σ.1 (7 + 2 * i) 10).toNat) 9) (by rw [hf.fr.1 (7 + 2 * (σ.1 (7 + 2 * i) 10).toNat) (by omega)]) ?_
      refine V_if_ne X 98 (hR _ _) dX6_isSound_91 (by decide) (fun _ => ?_) (fun h => absurd h (hsd.2.1 hh.1 (by omega)))
      refine V_iconst X dX6_isSound_98 ?_
      refine V_istore X [(4, .int (iN (0))), (3, .int (iN (1))), (2, .ref (ga g (7 + 2 * i))), (0, .ref (ga g (0))), (1, .int (iN (((i : Nat) : Int))))] dX6_isSound_99 (by decide) rfl ?_
      refine V_iload_n X 1 rfl dX6_isSound_101 rfl ?_
      refine V_if_eq X 118 ⟨by decide, by decide⟩ dX6_isSound_102 (by decide) (fun h => absurd h (by first | decide | omega)) (fun _ => ?_)
      refine V_iload X 0 rfl dX6_isSound_105 ?_
      refine V_if_ne X 118 ⟨by decide, by decide⟩ dX6_isSound_107 (by decide) (fun h => absurd h (by first | decide | omega)) (fun _ => ?_)
      refine V_aload_n X 2 rfl dX6_isSound_110 rfl ?_
      refine V_get X (ci := 2) (7 + 2 * i) (by omega) (kd_lap (by omega)) (by decide) rfl (fun _ h => List.mem_cons_of_mem _ (List.mem_append_left _ (List.mem_append_left _ (List.mem_append_left _ (List.mem_append_left _ (List.mem_append_right _ h)))))) 11 (by decide) (List.mem_of_getElem? (i := 11) rfl) rfl rfl dX6_isSound_111 ?_
      refine V_top (b := σ.1 (7 + 2 * i) 11) (by rw [hf.fr.1 (7 + 2 * i) (by omega)]) ?_
      refine V_iconst X dX6_isSound_114 ?_
      refine V_icmp_le X 120 (hR _ _) ⟨by decide, by decide⟩ dX6_isSound_115 (by decide) (fun _ => ?_) (fun h => absurd h (fun z => z hsd.2.2))
      refine V_iinc X [(1, .int (iN (((i : Nat) : Int) + 1))), (4, .int (iN (0))), (3, .int (iN (1))), (2, .ref (ga g (7 + 2 * i))), (0, .ref (ga g (0)))] 4 (((i : Nat) : Int) + 1) (rfl) rfl dX6_isSound_120 (by decide) rfl ?_
      refine V_goto X 2 dX6_isSound_123 (by decide) ?_
      refine V_sub (lv' := [(0, .ref (ga g (0))), (1, .int (iN (((i : Nat) : Int) + 1)))]) [4, 0] rfl ?_
      refine V_lv (congrArg (fun q : Int => ([(0, .ref (ga g (0))), (1, .int (iN q))] : List (Nat × Value))) (show ((i : Nat) : Int) + 1 = (((i + 1) : Nat) : Int) from by omega)) ?_
      exact kk _ _ ⟨trivial, rfl, hf.fr⟩
    · skip
      rw [if_neg hh] at hz9
      subst hz9
      refine V_if_eq X 98 ⟨by decide, by decide⟩ dX6_isSound_73 (by decide) (fun _ => ?_) (fun h => absurd h (by first | decide | omega))
      refine V_iconst X dX6_isSound_98 ?_
      refine V_istore X [(4, .int (iN (0))), (3, .int (iN (1))), (2, .ref (ga g (7 + 2 * i))), (0, .ref (ga g (0))), (1, .int (iN (((i : Nat) : Int))))] dX6_isSound_99 (by decide) rfl ?_
      refine V_iload_n X 1 rfl dX6_isSound_101 rfl ?_
      refine V_if_eq X 118 ⟨by decide, by decide⟩ dX6_isSound_102 (by decide) (fun h => absurd h (by first | decide | omega)) (fun _ => ?_)
      refine V_iload X 0 rfl dX6_isSound_105 ?_
      refine V_if_ne X 118 ⟨by decide, by decide⟩ dX6_isSound_107 (by decide) (fun h => absurd h (by first | decide | omega)) (fun _ => ?_)
      refine V_aload_n X 2 rfl dX6_isSound_110 rfl ?_
      refine V_get X (ci := 2) (7 + 2 * i) (by omega) (kd_lap (by omega)) (by decide) rfl (fun _ h => List.mem_cons_of_mem _ (List.mem_append_left _ (List.mem_append_left _ (List.mem_append_left _ (List.mem_append_left _ (List.mem_append_right _ h)))))) 11 (by decide) (List.mem_of_getElem? (i := 11) rfl) rfl rfl dX6_isSound_111 ?_
      refine V_top (b := σ.1 (7 + 2 * i) 11) (by rw [hf.fr.1 (7 + 2 * i) (by omega)]) ?_
      refine V_iconst X dX6_isSound_114 ?_
      refine V_icmp_le X 120 (hR _ _) ⟨by decide, by decide⟩ dX6_isSound_115 (by decide) (fun _ => ?_) (fun h => absurd h (fun z => z hsd.2.2))
      refine V_iinc X [(1, .int (iN (((i : Nat) : Int) + 1))), (4, .int (iN (0))), (3, .int (iN (1))), (2, .ref (ga g (7 + 2 * i))), (0, .ref (ga g (0)))] 4 (((i : Nat) : Int) + 1) (rfl) rfl dX6_isSound_120 (by decide) rfl ?_
      refine V_goto X 2 dX6_isSound_123 (by decide) ?_
      refine V_sub (lv' := [(0, .ref (ga g (0))), (1, .int (iN (((i : Nat) : Int) + 1)))]) [4, 0] rfl ?_
      refine V_lv (congrArg (fun q : Int => ([(0, .ref (ga g (0))), (1, .int (iN q))] : List (Nat × Value))) (show ((i : Nat) : Int) + 1 = (((i + 1) : Nat) : Int) from by omega)) ?_
      exact kk _ _ ⟨trivial, rfl, hf.fr⟩
