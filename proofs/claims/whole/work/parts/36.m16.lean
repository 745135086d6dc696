/-! ===== the reference: drive ===== -/
def dmA (u : St) (n : Nat) (T : Int) : St := sw (sw u 98 n (u.1 89 30)) 99 n T
def cpM (σ : St) (n i : Nat) : St := (fun q => if q = 97 then (fun k => if 60 * n ≤ k ∧ k < 60 * n + i then σ.1 96 (k - 60 * n) else σ.1 97 k) else σ.1 q, σ.2)
theorem cpM_0 {σ : St} {n : Nat} : cpM σ n 0 = σ := by
  unfold cpM
  have : (fun q => if q = 97 then (fun k => if 60 * n ≤ k ∧ k < 60 * n + 0 then σ.1 96 (k - 60 * n) else σ.1 97 k) else σ.1 q) = σ.1 := by
    funext q
    by_cases h : q = 97
    · subst h; funext k; simp; omega
    · simp [h]
  rw [this]
theorem cpM_n {σ : St} {n i q : Nat} (h : q ≠ 97) : (cpM σ n i).1 q = σ.1 q := by simp [cpM, h]
theorem cpM_7 {σ : St} {n i k : Nat} : (cpM σ n i).1 97 k = if 60 * n ≤ k ∧ k < 60 * n + i then σ.1 96 (k - 60 * n) else σ.1 97 k := by simp [cpM]
theorem cpM_s {σ : St} {n i : Nat} : sw (cpM σ n i) 97 (60 * n + i) (σ.1 96 i) = cpM σ n (i + 1) := by
  unfold cpM sw
  simp only
  congr 1
  funext q
  by_cases e : q = 97
  · subst e
    simp only [if_true]
    funext k
    show (if k = 60 * n + i then σ.1 96 i else (if 60 * n ≤ k ∧ k < 60 * n + i then σ.1 96 (k - 60 * n) else σ.1 97 k)) = (if 60 * n ≤ k ∧ k < 60 * n + (i + 1) then σ.1 96 (k - 60 * n) else σ.1 97 k)
    by_cases e2 : k = 60 * n + i
    · subst e2; rw [if_pos rfl, if_pos (by omega), show 60 * n + i - 60 * n = i by omega]
    · rw [if_neg e2]
      by_cases e3 : 60 * n ≤ k ∧ k < 60 * n + i
      · rw [if_pos e3, if_pos (by omega)]
      · rw [if_neg e3, if_neg (by omega)]
  · simp [e]
theorem cpM_RG {σ : St} {n i : Nat} (h : RG σ) : RG (cpM σ n i) := by
  intro q l
  by_cases e : q = 97
  · subst e
    rw [cpM_7]
    split
    · exact h _ _
    · exact h _ _
  · rw [cpM_n e]; exact h _ _
theorem MD.of {σ u : St} {n : Nat} {D : Nat → Int} (h : MD σ n D) (e : u.1 106 = σ.1 106) : MD u n D := by
  unfold MD at h ⊢
  rw [e]
  exact h
def rndG (σ : St) (tr : Int) : Int := if ¬ σ.1 89 24 = 0 ∧ σ.1 108 (σ.1 89 23 - 1).toNat = tr then σ.1 89 23 - 1 else -1
def bsM (D : Nat → Int) (gh : Int) : Int := if gh = -1 ∨ D gh.toNat = 5 then -1 else gh
def dmF (v : St) (n : Nat) (dr tr ca gh rd bs T : Int) : St := sw (sw (sw (sw (sw (sw (sw (sw (cpM (dmA (sw v 89 0 0) n T) n (v.1 89 30).toNat) 101 n dr) 102 n tr) 103 n ca) 104 n gh) 105 n rd) 106 n bs) 89 11 ((n : Int) + 1)) 89 9 0

set_option maxRecDepth 100000 in
set_option maxHeartbeats 4000000 in
theorem m_X7_drive (g : Geo) (l : Launch) (hl9 : l.stackTraces = false) (σ : St) (hR : RG σ) (hTM : TM σ) (hCM : CM σ) (hPM : PM σ) (hT4 : 0 ≤ σ.1 89 1 ∧ σ.1 89 1 ≤ 4) (hC4 : 0 ≤ σ.1 89 5 ∧ σ.1 89 5 ≤ 4) (n : Nat) (hMB : MB σ n) (D : Nat → Int) (hMD : MD σ n D) (dr tr ca gh : Int) (hdr : R32 dr) (htr : R32 tr) (hca : R32 ca) (hgh : R32 gh) (ty : Nat) (hty : σ.1 89 9 = (ty : Int)) (hty60 : ty ≤ 60) (hch : ∀ i, i < 60 → 0 ≤ σ.1 96 i ∧ σ.1 96 i < 65536) (hopn : ¬ σ.1 89 24 = 0 → 1 ≤ σ.1 89 23) (hr10 : 0 ≤ σ.1 89 23 ∧ σ.1 89 23 ≤ 10) : Met l yX7_drive wsX7_drive ({ frames := 4, cells := 0, slots := 0, locals := 91 }) (va_Pc [.ref (ga g (89)), .int (iN (dr)), .int (iN (tr)), .int (iN (ca)), .int (iN (gh))] (World g σ)) (QI g (fun z u => (((0 ≤ dr ∧ dr < 6) ∧ (0 ≤ tr ∧ tr < σ.1 89 1) ∧ 0 ≤ ca ∧ ca < σ.1 89 5) ∧ ghM σ gh tr ∧ canM σ tr.toNat ca.toNat ty ∧ n < 30 ∧ z = (n : Int) ∧ ∃ v, MrP σ tr.toNat ca.toNat (σ.1 96) ty v ∧ u = dmF v n dr tr ca gh (rndG σ tr) (bsM D gh) (tmM σ tr.toNat (rideM σ tr.toNat ca.toNat (σ.1 96) ty))) ∨ (¬ ((0 ≤ dr ∧ dr < 6) ∧ (0 ≤ tr ∧ tr < σ.1 89 1) ∧ 0 ≤ ca ∧ ca < σ.1 89 5) ∧ u.1 89 0 = 1 ∧ FrM σ u) ∨ (((0 ≤ dr ∧ dr < 6) ∧ (0 ≤ tr ∧ tr < σ.1 89 1) ∧ 0 ≤ ca ∧ ca < σ.1 89 5) ∧ ¬ ghM σ gh tr ∧ u.1 89 0 = 2 ∧ FrM σ u) ∨ (((0 ≤ dr ∧ dr < 6) ∧ (0 ≤ tr ∧ tr < σ.1 89 1) ∧ 0 ≤ ca ∧ ca < σ.1 89 5) ∧ ghM σ gh tr ∧ ¬ canM σ tr.toNat ca.toNat ty ∧ u.1 89 0 = 3 ∧ FrM σ u) ∨ (((0 ≤ dr ∧ dr < 6) ∧ (0 ≤ tr ∧ tr < σ.1 89 1) ∧ 0 ≤ ca ∧ ca < σ.1 89 5) ∧ ghM σ gh tr ∧ canM σ tr.toNat ca.toNat ty ∧ ¬ n < 30 ∧ u.1 89 0 = 4 ∧ FrM σ u))) 0 0 (gA g) := by
  refine V_met hl9 (by decide) rfl (Nat.le_of_ble_eq_true rfl) ?_
  intro p9 e9 s9 m9 b9 t9 c9 X hr _
  have hn := hMB.1
  have hn30 := hMB.2.1
  have hL4 : 0 ≤ σ.1 89 11 ∧ σ.1 89 11 ≤ 30 := by omega
  have hRg : R32 (rndG σ tr) := by unfold rndG R32; split <;> omega
  refine V_lv (lv' := [(0, .ref (ga g (89))), (1, .int (iN (dr))), (2, .int (iN (tr))), (3, .int (iN (ca))), (4, .int (iN (gh)))]) rfl ?_
  refine V_iload_n X 1 rfl dX7_drive_0 rfl ?_
  refine V_iconst X dX7_drive_1 ?_
  refine V_iconst X dX7_drive_2 ?_
  refine V_callS_I X (na := 3) (m_X7_in g l hl9 σ dr 0 (5) hdr ⟨by decide, by decide⟩ ⟨by decide, by decide⟩) gX7_drive_X7_in rfl rfl rfl (by decide +kernel) ⟨Nat.le_of_ble_eq_true rfl, Nat.le_of_ble_eq_true rfl⟩ rfl rfl (Nat.le_of_ble_eq_true rfl) ⟨Nat.le_of_ble_eq_true rfl, Nat.le_of_ble_eq_true rfl⟩ dX7_drive_3 (fun z1 u2 z1r hp3 => ?_)
  obtain ⟨hz9, hu4⟩ := hp3
  have hu4 := hu4.symm
  subst hu4
  rcases Classical.em (0 ≤ dr ∧ dr ≤ 5) with hE | hE
  · skip
    rw [if_pos hE] at hz9
    subst hz9
    refine V_if_eq X 25 ⟨by decide, by decide⟩ dX7_drive_6 (by decide) (fun h => absurd h (by first | decide | omega)) (fun _ => ?_)
    refine V_aload_n X 0 rfl dX7_drive_9 rfl ?_
    refine V_iload_n X 2 rfl dX7_drive_10 rfl ?_
    refine V_callV_I X (na := 1) (ci := 7) (b0 := 89) (by decide) (rfl) (by decide) rfl (m_X7_isNoTrack g l hl9 σ hR tr htr hT4) gX7_drive_X7_isNoTrack rfl rfl rfl (by decide +kernel) ⟨Nat.le_of_ble_eq_true rfl, Nat.le_of_ble_eq_true rfl⟩ rfl rfl (Nat.le_of_ble_eq_true rfl) ⟨Nat.le_of_ble_eq_true rfl, Nat.le_of_ble_eq_true rfl⟩ dX7_drive_11 (fun z5 u6 z5r hp7 => ?_)
    obtain ⟨hz9, hu8⟩ := hp7
    have hu8 := hu8.symm
    subst hu8
    rcases Classical.em (0 ≤ tr ∧ tr < σ.1 89 1) with hT | hT
    · skip
      rw [if_pos hT] at hz9
      subst hz9
      refine V_if_ne X 25 ⟨by decide, by decide⟩ dX7_drive_14 (by decide) (fun h => absurd h (by first | decide | omega)) (fun _ => ?_)
      refine V_aload_n X 0 rfl dX7_drive_17 rfl ?_
      refine V_iload_n X 3 rfl dX7_drive_18 rfl ?_
      refine V_callV_I X (na := 1) (ci := 7) (b0 := 89) (by decide) (rfl) (by decide) rfl (m_X7_isNoCar g l hl9 σ hR ca hca hC4) gX7_drive_X7_isNoCar rfl rfl rfl (by decide +kernel) ⟨Nat.le_of_ble_eq_true rfl, Nat.le_of_ble_eq_true rfl⟩ rfl rfl (Nat.le_of_ble_eq_true rfl) ⟨Nat.le_of_ble_eq_true rfl, Nat.le_of_ble_eq_true rfl⟩ dX7_drive_19 (fun z9 u10 z9r hp11 => ?_)
      obtain ⟨hz9, hu12⟩ := hp11
      have hu12 := hu12.symm
      subst hu12
      rcases Classical.em (0 ≤ ca ∧ ca < σ.1 89 5) with hC | hC
      · skip
        rw [if_pos hC] at hz9
        subst hz9
        refine V_if_eq X 29 ⟨by decide, by decide⟩ dX7_drive_22 (by decide) (fun _ => ?_) (fun h => absurd h (by first | decide | omega))
        refine V_aload_n X 0 rfl dX7_drive_29 rfl ?_
        refine V_iload X 4 rfl dX7_drive_30 ?_
        refine V_iload_n X 2 rfl dX7_drive_32 rfl ?_
        refine V_callV_I X (na := 2) (ci := 7) (b0 := 89) (by decide) (rfl) (by decide) rfl (m_X7_isGhost g l hl9 σ hR hL4 gh tr hgh htr) gX7_drive_X7_isGhost rfl rfl rfl (by decide +kernel) ⟨Nat.le_of_ble_eq_true rfl, Nat.le_of_ble_eq_true rfl⟩ rfl rfl (Nat.le_of_ble_eq_true rfl) ⟨Nat.le_of_ble_eq_true rfl, Nat.le_of_ble_eq_true rfl⟩ dX7_drive_33 (fun z13 u14 z13r hp15 => ?_)
        obtain ⟨hz9, hu16⟩ := hp15
        have hu16 := hu16.symm
        subst hu16
        rcases Classical.em (ghM σ gh tr) with hG | hG
        · skip
          rw [if_pos hG] at hz9
          subst hz9
          refine V_if_ne X 43 ⟨by decide, by decide⟩ dX7_drive_36 (by decide) (fun _ => ?_) (fun h => absurd h (by first | decide | omega))
          refine V_aload_n X 0 rfl dX7_drive_43 rfl ?_
          refine V_iload_n X 2 rfl dX7_drive_44 rfl ?_
          refine V_iload_n X 3 rfl dX7_drive_45 rfl ?_
          refine V_callV_I X (na := 2) (ci := 7) (b0 := 89) (by decide) (rfl) (by decide) rfl (m_X7_canDrive g l hl9 σ hR hTM hCM tr ca (by omega) (by omega) ty hty hty60) gX7_drive_X7_canDrive rfl rfl rfl (by decide +kernel) ⟨Nat.le_of_ble_eq_true rfl, Nat.le_of_ble_eq_true rfl⟩ rfl rfl (Nat.le_of_ble_eq_true rfl) ⟨Nat.le_of_ble_eq_true rfl, Nat.le_of_ble_eq_true rfl⟩ dX7_drive_46 (fun z17 u18 z17r hp19 => ?_)
          obtain ⟨hf, hcv⟩ := hp19
          rcases hcv with ⟨hq, hcm, hv⟩ | ⟨hq, hcm⟩
          · skip
            subst hq
            refine V_if_ne X 56 ⟨by decide, by decide⟩ dX7_drive_49 (by decide) (fun _ => ?_) (fun h => absurd h (by first | decide | omega))
            refine V_aload_n X 0 rfl dX7_drive_56 rfl ?_
            refine V_get X (ci := 7) (89) (by decide) (rfl) (by decide) rfl (fun _ h => List.mem_cons_of_mem _ (List.mem_append_right _ h)) 11 (by decide) (List.mem_of_getElem? (i := 1) rfl) rfl rfl dX7_drive_57 ?_
            refine V_top (b := ((n : Nat) : Int)) (by rw [hf.2.1 11 (by decide) (by decide)]; exact hn) ?_
            refine V_bipush X (by decide) dX7_drive_60 ?_
            refine V_icmp_ne X 69 ⟨by omega, by omega⟩ ⟨by decide, by decide⟩ dX7_drive_62 (by decide) (fun q20 => ?_) (fun q20 => ?_)
            · skip
              refine V_iconst X dX7_drive_69 ?_
              refine V_istore X [(5, .int (iN (0))), (0, .ref (ga g (89))), (1, .int (iN (dr))), (2, .int (iN (tr))), (3, .int (iN (ca))), (4, .int (iN (gh)))] dX7_drive_70 (by decide) rfl ?_
              refine V_aload_n X 1 rfl dX7_drive_72 rfl ?_
              refine V_iload X 0 rfl dX7_drive_73 ?_
              refine V_callV_I X (na := 1) (ci := 7) (b0 := 89) (by decide) (rfl) (by decide) rfl (m_X7_fails g l hl9 u18 hf.2.2.2 0 ⟨by decide, by decide⟩) gX7_drive_X7_fails rfl rfl rfl (by decide +kernel) ⟨Nat.le_of_ble_eq_true rfl, Nat.le_of_ble_eq_true rfl⟩ rfl rfl (Nat.le_of_ble_eq_true rfl) ⟨Nat.le_of_ble_eq_true rfl, Nat.le_of_ble_eq_true rfl⟩ dX7_drive_75 (fun z21 u22 z21r hp23 => ?_)
              obtain ⟨hz9, hu24⟩ := hp23
              have hu24 := hu24.symm
              subst hu24
              rw [if_neg (by decide)] at hz9
              subst hz9
              refine V_if_eq X 83 ⟨by decide, by decide⟩ dX7_drive_78 (by decide) (fun _ => ?_) (fun h => absurd h (by first | decide | omega))
              refine V_aload_n X 1 rfl dX7_drive_83 rfl ?_
              refine V_get X (ci := 7) (89) (by decide) (rfl) (by decide) rfl (fun _ h => List.mem_cons_of_mem _ (List.mem_append_right _ h)) 11 (by decide) (List.mem_of_getElem? (i := 1) rfl) rfl rfl dX7_drive_84 ?_
              refine V_top (b := u18.1 89 11) (rd_k (by decide)) ?_
              refine V_top (b := ((n : Nat) : Int)) (by rw [hf.2.1 11 (by decide) (by decide)]; exact hn) ?_
              refine V_istore X [(6, .int (iN (((n : Nat) : Int)))), (5, .int (iN (0))), (0, .ref (ga g (89))), (1, .int (iN (dr))), (2, .int (iN (tr))), (3, .int (iN (ca))), (4, .int (iN (gh)))] dX7_drive_87 (by decide) rfl ?_
              refine V_aload_n X 2 rfl dX7_drive_89 rfl ?_
              refine V_get X (ci := 7) (89) (by decide) (rfl) (by decide) rfl (fun _ h => List.mem_cons_of_mem _ (List.mem_append_right _ h)) 13 (by decide) (List.mem_of_getElem? (i := 2) rfl) rfl rfl dX7_drive_90 ?_
              refine V_iload X 0 rfl dX7_drive_93 ?_
              refine V_aload_n X 2 rfl dX7_drive_95 rfl ?_
              refine V_get X (ci := 7) (89) (by decide) (rfl) (by decide) rfl (fun _ h => List.mem_cons_of_mem _ (List.mem_append_right _ h)) 30 (by decide) (List.mem_of_getElem? (i := 3) rfl) rfl rfl dX7_drive_96 ?_
              refine V_top (b := u18.1 89 30) (rd_k (by decide)) ?_
              refine V_iast X (N := 30) (98) (by decide) (rfl) (rfl) (by decide) (n) (rfl) (by omega) dX7_drive_99 ?_
              refine V_aload_n X 2 rfl dX7_drive_100 rfl ?_
              refine V_get X (ci := 7) (89) (by decide) (rfl) (by decide) rfl (fun _ h => List.mem_cons_of_mem _ (List.mem_append_right _ h)) 14 (by decide) (List.mem_of_getElem? (i := 4) rfl) rfl rfl dX7_drive_101 ?_
              refine V_iload X 0 rfl dX7_drive_104 ?_
              refine V_aload_n X 2 rfl dX7_drive_106 rfl ?_
              refine V_iload_n X 4 rfl dX7_drive_107 rfl ?_
              have hbd := mr_b hCM (by omega) hv
              have hov := (rfF_ov (hPM tr.toNat (by omega) hcm.1) ty).1 hcm.2
              have hv2 := hv.2
              have hlf := lenM_fr (t := tr.toNat) hf
              have ho1 : lenM σ tr.toNat ≤ u18.1 89 28 := hv2.1 ▸ hov.1
              have ho2 : 0 < u18.1 89 29 := hv2.2.1 ▸ hov.2
              refine V_callV_I X (na := 1) (ci := 7) (b0 := 89) (by decide) (rfl) (by decide) rfl (m_X7_timeNow g l hl9 (sw (sw u18 89 0 0) 98 n (u18.1 89 30)) ((hf.2.2.2.sw _ _ ⟨by decide, by decide⟩).sw _ _ ⟨by omega, by omega⟩) (show TM u18 from hTM.fr hf) tr (by omega) (by show lenM u18 tr.toNat ≤ u18.1 89 28; omega) (by show u18.1 89 28 ≤ 9000; omega) ho2 hbd.2.2.2.1 hbd.2.2.2.2.1 (by show u18.1 89 30 ≤ 1000; omega)) gX7_drive_X7_timeNow rfl rfl rfl (by decide +kernel) ⟨Nat.le_of_ble_eq_true rfl, Nat.le_of_ble_eq_true rfl⟩ rfl rfl (Nat.le_of_ble_eq_true rfl) ⟨Nat.le_of_ble_eq_true rfl, Nat.le_of_ble_eq_true rfl⟩ dX7_drive_108 (fun z25 u26 z25r hp27 => ?_)
              obtain ⟨hz, hu28⟩ := hp27
              have hu28 := hu28.symm
              subst hu28
              have hzt : z25 = tmM σ tr.toNat (rideM σ tr.toNat ca.toNat (σ.1 96) ty) := tm_end hv hz
              refine V_iast X (N := 30) (99) (by decide) (rfl) (rfl) (by decide) (n) (rfl) (by omega) dX7_drive_111 ?_
              obtain ⟨w, hw⟩ : ∃ w, w = dmA (sw u18 89 0 0) n z25 := ⟨_, rfl⟩
              refine V_st (σ' := w) hw.symm ?_
              have hRw : RG w := by rw [hw]; exact ((hf.2.2.2.sw _ _ ⟨by decide, by decide⟩).sw _ _ ⟨by show -2147483648 ≤ u18.1 89 30; omega, by show u18.1 89 30 ≤ _; omega⟩).sw _ _ z25r
              have hw96 : w.1 96 = σ.1 96 := by rw [hw]; exact hf.1 96 (by decide) (by decide)
              have hw30 : w.1 89 30 = u18.1 89 30 := by rw [hw]; rfl
              have hw89 : ∀ k, k ≠ 0 → (k < 28 ∨ 31 < k) → w.1 89 k = σ.1 89 k := by intro k h1 h2; rw [hw, ← hf.2.1 k h1 h2]; show (if k = 0 then _ else _) = _; rw [if_neg h1]
              have hw108 : w.1 108 = σ.1 108 := by rw [hw]; exact hf.1 108 (by decide) (by decide)
              have hw106 : w.1 106 = σ.1 106 := by rw [hw]; exact hf.1 106 (by decide) (by decide)
              refine V_iconst X dX7_drive_112 ?_
              refine V_istore X [(7, .int (iN (0))), (6, .int (iN (((n : Nat) : Int)))), (5, .int (iN (0))), (0, .ref (ga g (89))), (1, .int (iN (dr))), (2, .int (iN (tr))), (3, .int (iN (ca))), (4, .int (iN (gh)))] dX7_drive_113 (by decide) rfl ?_
              refine V_sub (lv' := [(0, .ref (ga g (89))), (1, .int (iN (dr))), (2, .int (iN (tr))), (3, .int (iN (ca))), (4, .int (iN (gh))), (5, .int (iN (0))), (6, .int (iN (((n : Nat) : Int)))), (7, .int (iN (0)))]) [3, 4, 5, 6, 7, 2, 1, 0] rfl ?_
              refine V_up (N := (u18.1 89 30).toNat) (fun (i : Nat) (u : St) (lw : List (Nat × Value)) => True ∧ [(0, .ref (ga g (89))), (1, .int (iN (dr))), (2, .int (iN (tr))), (3, .int (iN (ca))), (4, .int (iN (gh))), (5, .int (iN (0))), (6, .int (iN (((n : Nat) : Int)))), (7, .int (iN (((i : Nat) : Int))))] = lw ∧ (u = cpM w n i)) (i0 := 0) (Nat.zero_le _) ⟨trivial, rfl, cpM_0.symm⟩ ?_ ?_
              · skip
                rintro u1 _ ⟨-, rfl, hu⟩
                have hRu : RG u1 := hu ▸ cpM_RG hRw
                have h89 : ∀ k, k ≠ 0 → (k < 28 ∨ 31 < k) → u1.1 89 k = σ.1 89 k := fun k h1 h2 => by rw [hu, cpM_n (by decide)]; exact hw89 k h1 h2
                have h108 : u1.1 108 = σ.1 108 := by rw [hu, cpM_n (by decide)]; exact hw108
                have h106 : u1.1 106 = σ.1 106 := by rw [hu, cpM_n (by decide)]; exact hw106
                refine V_iload X 7 rfl dX7_drive_115 ?_
                refine V_aload_n X 0 rfl dX7_drive_117 rfl ?_
                refine V_get X (ci := 7) (89) (by decide) (rfl) (by decide) rfl (fun _ h => List.mem_cons_of_mem _ (List.mem_append_right _ h)) 30 (by decide) (List.mem_of_getElem? (i := 3) rfl) rfl rfl dX7_drive_118 ?_
                refine V_top (b := u18.1 89 30) (by rw [hu, cpM_n (by decide)]; exact hw30) ?_
                refine V_icmp_ge X 150 ⟨by omega, by omega⟩ (hf.2.2.2 _ _) dX7_drive_121 (by decide) (fun _ => ?_) (fun h => absurd h (by omega))
                refine V_aload_n X 0 rfl dX7_drive_150 rfl ?_
                refine V_get X (ci := 7) (89) (by decide) (rfl) (by decide) rfl (fun _ h => List.mem_cons_of_mem _ (List.mem_append_right _ h)) 16 (by decide) (List.mem_of_getElem? (i := 7) rfl) rfl rfl dX7_drive_151 ?_
                refine V_iload X 6 rfl dX7_drive_154 ?_
                refine V_iload_n X 1 rfl dX7_drive_156 rfl ?_
                refine V_iast X (N := 30) (101) (by decide) (rfl) (rfl) (by decide) (n) (rfl) (by omega) dX7_drive_157 ?_
                refine V_aload_n X 0 rfl dX7_drive_158 rfl ?_
                refine V_get X (ci := 7) (89) (by decide) (rfl) (by decide) rfl (fun _ h => List.mem_cons_of_mem _ (List.mem_append_right _ h)) 17 (by decide) (List.mem_of_getElem? (i := 8) rfl) rfl rfl dX7_drive_159 ?_
                refine V_iload X 6 rfl dX7_drive_162 ?_
                refine V_iload_n X 2 rfl dX7_drive_164 rfl ?_
                refine V_iast X (N := 30) (102) (by decide) (rfl) (rfl) (by decide) (n) (rfl) (by omega) dX7_drive_165 ?_
                refine V_aload_n X 0 rfl dX7_drive_166 rfl ?_
                refine V_get X (ci := 7) (89) (by decide) (rfl) (by decide) rfl (fun _ h => List.mem_cons_of_mem _ (List.mem_append_right _ h)) 18 (by decide) (List.mem_of_getElem? (i := 9) rfl) rfl rfl dX7_drive_167 ?_
                refine V_iload X 6 rfl dX7_drive_170 ?_
                refine V_iload_n X 3 rfl dX7_drive_172 rfl ?_
                refine V_iast X (N := 30) (103) (by decide) (rfl) (rfl) (by decide) (n) (rfl) (by omega) dX7_drive_173 ?_
                refine V_aload_n X 0 rfl dX7_drive_174 rfl ?_
                refine V_get X (ci := 7) (89) (by decide) (rfl) (by decide) rfl (fun _ h => List.mem_cons_of_mem _ (List.mem_append_right _ h)) 19 (by decide) (List.mem_of_getElem? (i := 10) rfl) rfl rfl dX7_drive_175 ?_
                refine V_iload X 6 rfl dX7_drive_178 ?_
                refine V_iload X 4 rfl dX7_drive_180 ?_
                refine V_iast X (N := 30) (104) (by decide) (rfl) (rfl) (by decide) (n) (rfl) (by omega) dX7_drive_182 ?_
                refine V_aload_n X 0 rfl dX7_drive_183 rfl ?_
                refine V_get X (ci := 7) (89) (by decide) (rfl) (by decide) rfl (fun _ h => List.mem_cons_of_mem _ (List.mem_append_right _ h)) 20 (by decide) (List.mem_of_getElem? (i := 11) rfl) rfl rfl dX7_drive_184 ?_
                refine V_iload X 6 rfl dX7_drive_187 ?_
                refine V_aload_n X 0 rfl dX7_drive_189 rfl ?_
                refine V_get X (ci := 7) (89) (by decide) (rfl) (by decide) rfl (fun _ h => List.mem_cons_of_mem _ (List.mem_append_right _ h)) 24 (by decide) (List.mem_of_getElem? (i := 12) rfl) rfl rfl dX7_drive_190 ?_
                refine V_top (b := u1.1 89 24) (Eq.trans (rd_n (by decide)) (Eq.trans (rd_n (by decide)) (Eq.trans (rd_n (by decide)) (rd_n (by decide))))) ?_
                refine V_top (b := σ.1 89 24) (h89 24 (by decide) (by decide)) ?_
                have hop := hopn
                refine V_if_eq X 220 (hR _ _) dX7_drive_193 (by decide) (fun q29 => ?_) (fun q29 => ?_)
                · skip
                  refine V_iconst X dX7_drive_220 ?_
                  refine V_top (b := rndG σ tr) (by unfold rndG; rw [if_neg (by omega)]) ?_
                  refine V_iast X (N := 30) (105) (by decide) (rfl) (rfl) (by decide) (n) (rfl) (by omega) dX7_drive_221 ?_
                  refine V_aload_n X 0 rfl dX7_drive_222 rfl ?_
                  refine V_get X (ci := 7) (89) (by decide) (rfl) (by decide) rfl (fun _ h => List.mem_cons_of_mem _ (List.mem_append_right _ h)) 21 (by decide) (List.mem_of_getElem? (i := 15) rfl) rfl rfl dX7_drive_223 ?_
                  refine V_iload X 6 rfl dX7_drive_226 ?_
                  refine V_iload X 4 rfl dX7_drive_228 ?_
                  refine V_iconst X dX7_drive_230 ?_
                  refine V_icmp_eq X 244 hgh ⟨by decide, by decide⟩ dX7_drive_231 (by decide) (fun q30 => ?_) (fun q30 => ?_)
                  · skip
                    refine V_iconst X dX7_drive_244 ?_
                    refine V_goto X 250 dX7_drive_245 (by decide) ?_
                    refine V_top (b := bsM D gh) (by unfold bsM; rw [if_pos (by omega)]) ?_
                    refine V_iast X (N := 30) (106) (by decide) (rfl) (rfl) (by decide) (n) (rfl) (by omega) dX7_drive_250 ?_
                    refine V_aload_n X 0 rfl dX7_drive_251 rfl ?_
                    refine V_dup X rfl dX7_drive_252 ?_
                    refine V_get X (ci := 7) (89) (by decide) (rfl) (by decide) rfl (fun _ h => List.mem_cons_of_mem _ (List.mem_append_right _ h)) 11 (by decide) (List.mem_of_getElem? (i := 1) rfl) rfl rfl dX7_drive_253 ?_
                    refine V_top (b := u1.1 89 11) (Eq.trans (rd_n (by decide)) (Eq.trans (rd_n (by decide)) (Eq.trans (rd_n (by decide)) (Eq.trans (rd_n (by decide)) (Eq.trans (rd_n (by decide)) (rd_n (by decide))))))) ?_
                    refine V_top (b := ((n : Nat) : Int)) ((h89 11 (by decide) (by decide)).trans hn) ?_
                    refine V_iconst X dX7_drive_256 ?_
                    refine V_iadd X dX7_drive_257 ?_
                    refine V_top (b := (n : Int) + 1) (rfl) ?_
                    refine V_put X (ci := 7) (89) (by decide) (rfl) (by decide) rfl (fun _ h => List.mem_cons_of_mem _ (List.mem_append_right _ h)) 11 (by decide) (List.mem_of_getElem? (i := 1) rfl) rfl tyX7 tyX7_ok nmX7 rfl rfl rfl rfl rfl (Nat.le_of_ble_eq_true rfl) dX7_drive_258 ?_
                    refine V_aload_n X 0 rfl dX7_drive_261 rfl ?_
                    refine V_iconst X dX7_drive_262 ?_
                    refine V_put X (ci := 7) (89) (by decide) (rfl) (by decide) rfl (fun _ h => List.mem_cons_of_mem _ (List.mem_append_right _ h)) 9 (by decide) (List.mem_of_getElem? (i := 16) rfl) rfl tyX7 tyX7_ok nmX7 rfl rfl rfl rfl rfl (Nat.le_of_ble_eq_true rfl) dX7_drive_263 ?_
                    refine V_iload X 6 rfl dX7_drive_266 ?_
                    exact V_iret X hr rfl ⟨by omega, by omega⟩ (by exact Or.inl ⟨⟨by omega, hT, hC⟩, hG, hcm, by omega, rfl, u18, hv, by rw [hu, hw, hzt]; rfl⟩) dX7_drive_268 (by decide) (by decide)
                  · skip
                    refine V_aload_n X 0 rfl dX7_drive_234 rfl ?_
                    refine V_iload X 4 rfl dX7_drive_235 ?_
                    have hgg : 0 ≤ gh ∧ gh < (n : Int) := by unfold ghM at hG; omega
                    refine V_callV_I X (na := 1) (ci := 7) (b0 := 89) (by decide) (rfl) (by decide) rfl (m_X7_depthOf g l hl9 (sw (sw (sw (sw (sw u1 (101) (n) (dr)) (102) (n) (tr)) (103) (n) (ca)) (104) (n) (gh)) (105) (n) (rndG σ tr)) ((((((hRu).sw _ _ hdr).sw _ _ htr).sw _ _ hca).sw _ _ hgh).sw _ _ hRg) n hn30 D (hMD.of h106) gh (by omega)) gX7_drive_X7_depthOf rfl rfl rfl (by decide +kernel) ⟨Nat.le_of_ble_eq_true rfl, Nat.le_of_ble_eq_true rfl⟩ rfl rfl (Nat.le_of_ble_eq_true rfl) ⟨Nat.le_of_ble_eq_true rfl, Nat.le_of_ble_eq_true rfl⟩ dX7_drive_237 (fun z31 u32 z31r hp33 => ?_)
                    obtain ⟨hzd, hu34⟩ := hp33
                    have hu34 := hu34.symm
                    subst hu34
                    have hzd2 : z31 = D gh.toNat := hzd
                    subst hzd2
                    have hdd := (hMD gh.toNat (by omega)).1
                    refine V_iconst X dX7_drive_240 ?_
                    refine V_icmp_ne X 248 ⟨by omega, by omega⟩ ⟨by decide, by decide⟩ dX7_drive_241 (by decide) (fun q35 => ?_) (fun q35 => ?_)
                    · skip
                      refine V_iload X 4 rfl dX7_drive_248 ?_
                      refine V_top (b := bsM D gh) (by unfold bsM; rw [if_neg (by omega)]) ?_
                      refine V_iast X (N := 30) (106) (by decide) (rfl) (rfl) (by decide) (n) (rfl) (by omega) dX7_drive_250 ?_
                      refine V_aload_n X 0 rfl dX7_drive_251 rfl ?_
                      refine V_dup X rfl dX7_drive_252 ?_
                      refine V_get X (ci := 7) (89) (by decide) (rfl) (by decide) rfl (fun _ h => List.mem_cons_of_mem _ (List.mem_append_right _ h)) 11 (by decide) (List.mem_of_getElem? (i := 1) rfl) rfl rfl dX7_drive_253 ?_
                      refine V_top (b := u1.1 89 11) (Eq.trans (rd_n (by decide)) (Eq.trans (rd_n (by decide)) (Eq.trans (rd_n (by decide)) (Eq.trans (rd_n (by decide)) (Eq.trans (rd_n (by decide)) (rd_n (by decide))))))) ?_
                      refine V_top (b := ((n : Nat) : Int)) ((h89 11 (by decide) (by decide)).trans hn) ?_
                      refine V_iconst X dX7_drive_256 ?_
                      refine V_iadd X dX7_drive_257 ?_
                      refine V_top (b := (n : Int) + 1) (rfl) ?_
                      refine V_put X (ci := 7) (89) (by decide) (rfl) (by decide) rfl (fun _ h => List.mem_cons_of_mem _ (List.mem_append_right _ h)) 11 (by decide) (List.mem_of_getElem? (i := 1) rfl) rfl tyX7 tyX7_ok nmX7 rfl rfl rfl rfl rfl (Nat.le_of_ble_eq_true rfl) dX7_drive_258 ?_
                      refine V_aload_n X 0 rfl dX7_drive_261 rfl ?_
                      refine V_iconst X dX7_drive_262 ?_
                      refine V_put X (ci := 7) (89) (by decide) (rfl) (by decide) rfl (fun _ h => List.mem_cons_of_mem _ (List.mem_append_right _ h)) 9 (by decide) (List.mem_of_getElem? (i := 16) rfl) rfl tyX7 tyX7_ok nmX7 rfl rfl rfl rfl rfl (Nat.le_of_ble_eq_true rfl) dX7_drive_263 ?_
                      refine V_iload X 6 rfl dX7_drive_266 ?_
                      exact V_iret X hr rfl ⟨by omega, by omega⟩ (by exact Or.inl ⟨⟨by omega, hT, hC⟩, hG, hcm, by omega, rfl, u18, hv, by rw [hu, hw, hzt]; rfl⟩) dX7_drive_268 (by decide) (by decide)
                    · skip
                      refine V_iconst X dX7_drive_244 ?_
                      refine V_goto X 250 dX7_drive_245 (by decide) ?_
                      refine V_top (b := bsM D gh) (by unfold bsM; rw [if_pos (by omega)]) ?_
                      refine V_iast X (N := 30) (106) (by decide) (rfl) (rfl) (by decide) (n) (rfl) (by omega) dX7_drive_250 ?_
                      refine V_aload_n X 0 rfl dX7_drive_251 rfl ?_
                      refine V_dup X rfl dX7_drive_252 ?_
                      refine V_get X (ci := 7) (89) (by decide) (rfl) (by decide) rfl (fun _ h => List.mem_cons_of_mem _ (List.mem_append_right _ h)) 11 (by decide) (List.mem_of_getElem? (i := 1) rfl) rfl rfl dX7_drive_253 ?_
                      refine V_top (b := u1.1 89 11) (Eq.trans (rd_n (by decide)) (Eq.trans (rd_n (by decide)) (Eq.trans (rd_n (by decide)) (Eq.trans (rd_n (by decide)) (Eq.trans (rd_n (by decide)) (rd_n (by decide))))))) ?_
                      refine V_top (b := ((n : Nat) : Int)) ((h89 11 (by decide) (by decide)).trans hn) ?_
                      refine V_iconst X dX7_drive_256 ?_
                      refine V_iadd X dX7_drive_257 ?_
                      refine V_top (b := (n : Int) + 1) (rfl) ?_
                      refine V_put X (ci := 7) (89) (by decide) (rfl) (by decide) rfl (fun _ h => List.mem_cons_of_mem _ (List.mem_append_right _ h)) 11 (by decide) (List.mem_of_getElem? (i := 1) rfl) rfl tyX7 tyX7_ok nmX7 rfl rfl rfl rfl rfl (Nat.le_of_ble_eq_true rfl) dX7_drive_258 ?_
                      refine V_aload_n X 0 rfl dX7_drive_261 rfl ?_
                      refine V_iconst X dX7_drive_262 ?_
                      refine V_put X (ci := 7) (89) (by decide) (rfl) (by decide) rfl (fun _ h => List.mem_cons_of_mem _ (List.mem_append_right _ h)) 9 (by decide) (List.mem_of_getElem? (i := 16) rfl) rfl tyX7 tyX7_ok nmX7 rfl rfl rfl rfl rfl (Nat.le_of_ble_eq_true rfl) dX7_drive_263 ?_
                      refine V_iload X 6 rfl dX7_drive_266 ?_
                      exact V_iret X hr rfl ⟨by omega, by omega⟩ (by exact Or.inl ⟨⟨by omega, hT, hC⟩, hG, hcm, by omega, rfl, u18, hv, by rw [hu, hw, hzt]; rfl⟩) dX7_drive_268 (by decide) (by decide)
                · skip
                  refine V_aload_n X 0 rfl dX7_drive_196 rfl ?_
                  refine V_get X (ci := 7) (89) (by decide) (rfl) (by decide) rfl (fun _ h => List.mem_cons_of_mem _ (List.mem_append_right _ h)) 25 (by decide) (List.mem_of_getElem? (i := 13) rfl) rfl rfl dX7_drive_197 ?_
                  refine V_aload_n X 0 rfl dX7_drive_200 rfl ?_
                  refine V_get X (ci := 7) (89) (by decide) (rfl) (by decide) rfl (fun _ h => List.mem_cons_of_mem _ (List.mem_append_right _ h)) 23 (by decide) (List.mem_of_getElem? (i := 14) rfl) rfl rfl dX7_drive_201 ?_
                  refine V_top (b := u1.1 89 23) (Eq.trans (rd_n (by decide)) (Eq.trans (rd_n (by decide)) (Eq.trans (rd_n (by decide)) (rd_n (by decide))))) ?_
                  refine V_top (b := σ.1 89 23) (h89 23 (by decide) (by decide)) ?_
                  refine V_iconst X dX7_drive_204 ?_
                  refine V_isub X dX7_drive_205 ?_
                  refine V_top (b := σ.1 89 23 - 1) (rfl) ?_
                  refine V_iald X (N := 10) (108) (by decide) (rfl) (rfl) (by decide) ((σ.1 89 23 - 1).toNat) (by omega) (by omega) dX7_drive_206 ?_
                  refine V_top (b := u1.1 (108) ((σ.1 89 23 - 1).toNat)) (Eq.trans (rd_n (by decide)) (Eq.trans (rd_n (by decide)) (Eq.trans (rd_n (by decide)) (rd_n (by decide))))) ?_
                  refine V_top (b := σ.1 108 (σ.1 89 23 - 1).toNat) (by rw [h108]) ?_
                  refine V_iload_n X 2 rfl dX7_drive_207 rfl ?_
                  refine V_icmp_ne X 220 (hR _ _) htr dX7_drive_208 (by decide) (fun q36 => ?_) (fun q36 => ?_)
                  · skip
                    refine V_iconst X dX7_drive_220 ?_
                    refine V_top (b := rndG σ tr) (by unfold rndG; rw [if_neg (by omega)]) ?_
                    refine V_iast X (N := 30) (105) (by decide) (rfl) (rfl) (by decide) (n) (rfl) (by omega) dX7_drive_221 ?_
                    refine V_aload_n X 0 rfl dX7_drive_222 rfl ?_
                    refine V_get X (ci := 7) (89) (by decide) (rfl) (by decide) rfl (fun _ h => List.mem_cons_of_mem _ (List.mem_append_right _ h)) 21 (by decide) (List.mem_of_getElem? (i := 15) rfl) rfl rfl dX7_drive_223 ?_
                    refine V_iload X 6 rfl dX7_drive_226 ?_
                    refine V_iload X 4 rfl dX7_drive_228 ?_
                    refine V_iconst X dX7_drive_230 ?_
                    refine V_icmp_eq X 244 hgh ⟨by decide, by decide⟩ dX7_drive_231 (by decide) (fun q37 => ?_) (fun q37 => ?_)
                    · skip
                      refine V_iconst X dX7_drive_244 ?_
                      refine V_goto X 250 dX7_drive_245 (by decide) ?_
                      refine V_top (b := bsM D gh) (by unfold bsM; rw [if_pos (by omega)]) ?_
                      refine V_iast X (N := 30) (106) (by decide) (rfl) (rfl) (by decide) (n) (rfl) (by omega) dX7_drive_250 ?_
                      refine V_aload_n X 0 rfl dX7_drive_251 rfl ?_
                      refine V_dup X rfl dX7_drive_252 ?_
                      refine V_get X (ci := 7) (89) (by decide) (rfl) (by decide) rfl (fun _ h => List.mem_cons_of_mem _ (List.mem_append_right _ h)) 11 (by decide) (List.mem_of_getElem? (i := 1) rfl) rfl rfl dX7_drive_253 ?_
                      refine V_top (b := u1.1 89 11) (Eq.trans (rd_n (by decide)) (Eq.trans (rd_n (by decide)) (Eq.trans (rd_n (by decide)) (Eq.trans (rd_n (by decide)) (Eq.trans (rd_n (by decide)) (rd_n (by decide))))))) ?_
                      refine V_top (b := ((n : Nat) : Int)) ((h89 11 (by decide) (by decide)).trans hn) ?_
                      refine V_iconst X dX7_drive_256 ?_
                      refine V_iadd X dX7_drive_257 ?_
                      refine V_top (b := (n : Int) + 1) (rfl) ?_
                      refine V_put X (ci := 7) (89) (by decide) (rfl) (by decide) rfl (fun _ h => List.mem_cons_of_mem _ (List.mem_append_right _ h)) 11 (by decide) (List.mem_of_getElem? (i := 1) rfl) rfl tyX7 tyX7_ok nmX7 rfl rfl rfl rfl rfl (Nat.le_of_ble_eq_true rfl) dX7_drive_258 ?_
                      refine V_aload_n X 0 rfl dX7_drive_261 rfl ?_
                      refine V_iconst X dX7_drive_262 ?_
                      refine V_put X (ci := 7) (89) (by decide) (rfl) (by decide) rfl (fun _ h => List.mem_cons_of_mem _ (List.mem_append_right _ h)) 9 (by decide) (List.mem_of_getElem? (i := 16) rfl) rfl tyX7 tyX7_ok nmX7 rfl rfl rfl rfl rfl (Nat.le_of_ble_eq_true rfl) dX7_drive_263 ?_
                      refine V_iload X 6 rfl dX7_drive_266 ?_
                      exact V_iret X hr rfl ⟨by omega, by omega⟩ (by exact Or.inl ⟨⟨by omega, hT, hC⟩, hG, hcm, by omega, rfl, u18, hv, by rw [hu, hw, hzt]; rfl⟩) dX7_drive_268 (by decide) (by decide)
                    · skip
                      refine V_aload_n X 0 rfl dX7_drive_234 rfl ?_
                      refine V_iload X 4 rfl dX7_drive_235 ?_
                      have hgg : 0 ≤ gh ∧ gh < (n : Int) := by unfold ghM at hG; omega
                      refine V_callV_I X (na := 1) (ci := 7) (b0 := 89) (by decide) (rfl) (by decide) rfl (m_X7_depthOf g l hl9 (sw (sw (sw (sw (sw u1 (101) (n) (dr)) (102) (n) (tr)) (103) (n) (ca)) (104) (n) (gh)) (105) (n) (rndG σ tr)) ((((((hRu).sw _ _ hdr).sw _ _ htr).sw _ _ hca).sw _ _ hgh).sw _ _ hRg) n hn30 D (hMD.of h106) gh (by omega)) gX7_drive_X7_depthOf rfl rfl rfl (by decide +kernel) ⟨Nat.le_of_ble_eq_true rfl, Nat.le_of_ble_eq_true rfl⟩ rfl rfl (Nat.le_of_ble_eq_true rfl) ⟨Nat.le_of_ble_eq_true rfl, Nat.le_of_ble_eq_true rfl⟩ dX7_drive_237 (fun z38 u39 z38r hp40 => ?_)
                      obtain ⟨hzd, hu41⟩ := hp40
                      have hu41 := hu41.symm
                      subst hu41
                      have hzd2 : z38 = D gh.toNat := hzd
                      subst hzd2
                      have hdd := (hMD gh.toNat (by omega)).1
                      refine V_iconst X dX7_drive_240 ?_
                      refine V_icmp_ne X 248 ⟨by omega, by omega⟩ ⟨by decide, by decide⟩ dX7_drive_241 (by decide) (fun q42 => ?_) (fun q42 => ?_)
                      · skip
                        refine V_iload X 4 rfl dX7_drive_248 ?_
                        refine V_top (b := bsM D gh) (by unfold bsM; rw [if_neg (by omega)]) ?_
                        refine V_iast X (N := 30) (106) (by decide) (rfl) (rfl) (by decide) (n) (rfl) (by omega) dX7_drive_250 ?_
                        refine V_aload_n X 0 rfl dX7_drive_251 rfl ?_
                        refine V_dup X rfl dX7_drive_252 ?_
                        refine V_get X (ci := 7) (89) (by decide) (rfl) (by decide) rfl (fun _ h => List.mem_cons_of_mem _ (List.mem_append_right _ h)) 11 (by decide) (List.mem_of_getElem? (i := 1) rfl) rfl rfl dX7_drive_253 ?_
                        refine V_top (b := u1.1 89 11) (Eq.trans (rd_n (by decide)) (Eq.trans (rd_n (by decide)) (Eq.trans (rd_n (by decide)) (Eq.trans (rd_n (by decide)) (Eq.trans (rd_n (by decide)) (rd_n (by decide))))))) ?_
                        refine V_top (b := ((n : Nat) : Int)) ((h89 11 (by decide) (by decide)).trans hn) ?_
                        refine V_iconst X dX7_drive_256 ?_
                        refine V_iadd X dX7_drive_257 ?_
                        refine V_top (b := (n : Int) + 1) (rfl) ?_
                        refine V_put X (ci := 7) (89) (by decide) (rfl) (by decide) rfl (fun _ h => List.mem_cons_of_mem _ (List.mem_append_right _ h)) 11 (by decide) (List.mem_of_getElem? (i := 1) rfl) rfl tyX7 tyX7_ok nmX7 rfl rfl rfl rfl rfl (Nat.le_of_ble_eq_true rfl) dX7_drive_258 ?_
                        refine V_aload_n X 0 rfl dX7_drive_261 rfl ?_
                        refine V_iconst X dX7_drive_262 ?_
                        refine V_put X (ci := 7) (89) (by decide) (rfl) (by decide) rfl (fun _ h => List.mem_cons_of_mem _ (List.mem_append_right _ h)) 9 (by decide) (List.mem_of_getElem? (i := 16) rfl) rfl tyX7 tyX7_ok nmX7 rfl rfl rfl rfl rfl (Nat.le_of_ble_eq_true rfl) dX7_drive_263 ?_
                        refine V_iload X 6 rfl dX7_drive_266 ?_
                        exact V_iret X hr rfl ⟨by omega, by omega⟩ (by exact Or.inl ⟨⟨by omega, hT, hC⟩, hG, hcm, by omega, rfl, u18, hv, by rw [hu, hw, hzt]; rfl⟩) dX7_drive_268 (by decide) (by decide)
                      · skip
                        refine V_iconst X dX7_drive_244 ?_
                        refine V_goto X 250 dX7_drive_245 (by decide) ?_
                        refine V_top (b := bsM D gh) (by unfold bsM; rw [if_pos (by omega)]) ?_
                        refine V_iast X (N := 30) (106) (by decide) (rfl) (rfl) (by decide) (n) (rfl) (by omega) dX7_drive_250 ?_
                        refine V_aload_n X 0 rfl dX7_drive_251 rfl ?_
                        refine V_dup X rfl dX7_drive_252 ?_
                        refine V_get X (ci := 7) (89) (by decide) (rfl) (by decide) rfl (fun _ h => List.mem_cons_of_mem _ (List.mem_append_right _ h)) 11 (by decide) (List.mem_of_getElem? (i := 1) rfl) rfl rfl dX7_drive_253 ?_
                        refine V_top (b := u1.1 89 11) (Eq.trans (rd_n (by decide)) (Eq.trans (rd_n (by decide)) (Eq.trans (rd_n (by decide)) (Eq.trans (rd_n (by decide)) (Eq.trans (rd_n (by decide)) (rd_n (by decide))))))) ?_
                        refine V_top (b := ((n : Nat) : Int)) ((h89 11 (by decide) (by decide)).trans hn) ?_
                        refine V_iconst X dX7_drive_256 ?_
                        refine V_iadd X dX7_drive_257 ?_
                        refine V_top (b := (n : Int) + 1) (rfl) ?_
                        refine V_put X (ci := 7) (89) (by decide) (rfl) (by decide) rfl (fun _ h => List.mem_cons_of_mem _ (List.mem_append_right _ h)) 11 (by decide) (List.mem_of_getElem? (i := 1) rfl) rfl tyX7 tyX7_ok nmX7 rfl rfl rfl rfl rfl (Nat.le_of_ble_eq_true rfl) dX7_drive_258 ?_
                        refine V_aload_n X 0 rfl dX7_drive_261 rfl ?_
                        refine V_iconst X dX7_drive_262 ?_
                        refine V_put X (ci := 7) (89) (by decide) (rfl) (by decide) rfl (fun _ h => List.mem_cons_of_mem _ (List.mem_append_right _ h)) 9 (by decide) (List.mem_of_getElem? (i := 16) rfl) rfl tyX7 tyX7_ok nmX7 rfl rfl rfl rfl rfl (Nat.le_of_ble_eq_true rfl) dX7_drive_263 ?_
                        refine V_iload X 6 rfl dX7_drive_266 ?_
                        exact V_iret X hr rfl ⟨by omega, by omega⟩ (by exact Or.inl ⟨⟨by omega, hT, hC⟩, hG, hcm, by omega, rfl, u18, hv, by rw [hu, hw, hzt]; rfl⟩) dX7_drive_268 (by decide) (by decide)
                  · skip
                    refine V_aload_n X 0 rfl dX7_drive_211 rfl ?_
                    refine V_get X (ci := 7) (89) (by decide) (rfl) (by decide) rfl (fun _ h => List.mem_cons_of_mem _ (List.mem_append_right _ h)) 23 (by decide) (List.mem_of_getElem? (i := 14) rfl) rfl rfl dX7_drive_212 ?_
                    refine V_top (b := u1.1 89 23) (Eq.trans (rd_n (by decide)) (Eq.trans (rd_n (by decide)) (Eq.trans (rd_n (by decide)) (rd_n (by decide))))) ?_
                    refine V_top (b := σ.1 89 23) (h89 23 (by decide) (by decide)) ?_
                    refine V_iconst X dX7_drive_215 ?_
                    refine V_isub X dX7_drive_216 ?_
                    refine V_top (b := σ.1 89 23 - 1) (rfl) ?_
                    refine V_goto X 221 dX7_drive_217 (by decide) ?_
                    refine V_top (b := rndG σ tr) (by unfold rndG; rw [if_pos (by omega)]) ?_
                    refine V_iast X (N := 30) (105) (by decide) (rfl) (rfl) (by decide) (n) (rfl) (by omega) dX7_drive_221 ?_
                    refine V_aload_n X 0 rfl dX7_drive_222 rfl ?_
                    refine V_get X (ci := 7) (89) (by decide) (rfl) (by decide) rfl (fun _ h => List.mem_cons_of_mem _ (List.mem_append_right _ h)) 21 (by decide) (List.mem_of_getElem? (i := 15) rfl) rfl rfl dX7_drive_223 ?_
                    refine V_iload X 6 rfl dX7_drive_226 ?_
                    refine V_iload X 4 rfl dX7_drive_228 ?_
                    refine V_iconst X dX7_drive_230 ?_
                    refine V_icmp_eq X 244 hgh ⟨by decide, by decide⟩ dX7_drive_231 (by decide) (fun q43 => ?_) (fun q43 => ?_)
                    · skip
                      refine V_iconst X dX7_drive_244 ?_
                      refine V_goto X 250 dX7_drive_245 (by decide) ?_
                      refine V_top (b := bsM D gh) (by unfold bsM; rw [if_pos (by omega)]) ?_
                      refine V_iast X (N := 30) (106) (by decide) (rfl) (rfl) (by decide) (n) (rfl) (by omega) dX7_drive_250 ?_
                      refine V_aload_n X 0 rfl dX7_drive_251 rfl ?_
                      refine V_dup X rfl dX7_drive_252 ?_
                      refine V_get X (ci := 7) (89) (by decide) (rfl) (by decide) rfl (fun _ h => List.mem_cons_of_mem _ (List.mem_append_right _ h)) 11 (by decide) (List.mem_of_getElem? (i := 1) rfl) rfl rfl dX7_drive_253 ?_
                      refine V_top (b := u1.1 89 11) (Eq.trans (rd_n (by decide)) (Eq.trans (rd_n (by decide)) (Eq.trans (rd_n (by decide)) (Eq.trans (rd_n (by decide)) (Eq.trans (rd_n (by decide)) (rd_n (by decide))))))) ?_
                      refine V_top (b := ((n : Nat) : Int)) ((h89 11 (by decide) (by decide)).trans hn) ?_
                      refine V_iconst X dX7_drive_256 ?_
                      refine V_iadd X dX7_drive_257 ?_
                      refine V_top (b := (n : Int) + 1) (rfl) ?_
                      refine V_put X (ci := 7) (89) (by decide) (rfl) (by decide) rfl (fun _ h => List.mem_cons_of_mem _ (List.mem_append_right _ h)) 11 (by decide) (List.mem_of_getElem? (i := 1) rfl) rfl tyX7 tyX7_ok nmX7 rfl rfl rfl rfl rfl (Nat.le_of_ble_eq_true rfl) dX7_drive_258 ?_
                      refine V_aload_n X 0 rfl dX7_drive_261 rfl ?_
                      refine V_iconst X dX7_drive_262 ?_
                      refine V_put X (ci := 7) (89) (by decide) (rfl) (by decide) rfl (fun _ h => List.mem_cons_of_mem _ (List.mem_append_right _ h)) 9 (by decide) (List.mem_of_getElem? (i := 16) rfl) rfl tyX7 tyX7_ok nmX7 rfl rfl rfl rfl rfl (Nat.le_of_ble_eq_true rfl) dX7_drive_263 ?_
                      refine V_iload X 6 rfl dX7_drive_266 ?_
                      exact V_iret X hr rfl ⟨by omega, by omega⟩ (by exact Or.inl ⟨⟨by omega, hT, hC⟩, hG, hcm, by omega, rfl, u18, hv, by rw [hu, hw, hzt]; rfl⟩) dX7_drive_268 (by decide) (by decide)
                    · skip
                      refine V_aload_n X 0 rfl dX7_drive_234 rfl ?_
                      refine V_iload X 4 rfl dX7_drive_235 ?_
                      have hgg : 0 ≤ gh ∧ gh < (n : Int) := by unfold ghM at hG; omega
                      refine V_callV_I X (na := 1) (ci := 7) (b0 := 89) (by decide) (rfl) (by decide) rfl (m_X7_depthOf g l hl9 (sw (sw (sw (sw (sw u1 (101) (n) (dr)) (102) (n) (tr)) (103) (n) (ca)) (104) (n) (gh)) (105) (n) (rndG σ tr)) ((((((hRu).sw _ _ hdr).sw _ _ htr).sw _ _ hca).sw _ _ hgh).sw _ _ hRg) n hn30 D (hMD.of h106) gh (by omega)) gX7_drive_X7_depthOf rfl rfl rfl (by decide +kernel) ⟨Nat.le_of_ble_eq_true rfl, Nat.le_of_ble_eq_true rfl⟩ rfl rfl (Nat.le_of_ble_eq_true rfl) ⟨Nat.le_of_ble_eq_true rfl, Nat.le_of_ble_eq_true rfl⟩ dX7_drive_237 (fun z44 u45 z44r hp46 => ?_)
                      obtain ⟨hzd, hu47⟩ := hp46
                      have hu47 := hu47.symm
                      subst hu47
                      have hzd2 : z44 = D gh.toNat := hzd
                      subst hzd2
                      have hdd := (hMD gh.toNat (by omega)).1
                      refine V_iconst X dX7_drive_240 ?_
                      refine V_icmp_ne X 248 ⟨by omega, by omega⟩ ⟨by decide, by decide⟩ dX7_drive_241 (by decide) (fun q48 => ?_) (fun q48 => ?_)
                      · skip
                        refine V_iload X 4 rfl dX7_drive_248 ?_
                        refine V_top (b := bsM D gh) (by unfold bsM; rw [if_neg (by omega)]) ?_
                        refine V_iast X (N := 30) (106) (by decide) (rfl) (rfl) (by decide) (n) (rfl) (by omega) dX7_drive_250 ?_
                        refine V_aload_n X 0 rfl dX7_drive_251 rfl ?_
                        refine V_dup X rfl dX7_drive_252 ?_
                        refine V_get X (ci := 7) (89) (by decide) (rfl) (by decide) rfl (fun _ h => List.mem_cons_of_mem _ (List.mem_append_right _ h)) 11 (by decide) (List.mem_of_getElem? (i := 1) rfl) rfl rfl dX7_drive_253 ?_
                        refine V_top (b := u1.1 89 11) (Eq.trans (rd_n (by decide)) (Eq.trans (rd_n (by decide)) (Eq.trans (rd_n (by decide)) (Eq.trans (rd_n (by decide)) (Eq.trans (rd_n (by decide)) (rd_n (by decide))))))) ?_
                        refine V_top (b := ((n : Nat) : Int)) ((h89 11 (by decide) (by decide)).trans hn) ?_
                        refine V_iconst X dX7_drive_256 ?_
                        refine V_iadd X dX7_drive_257 ?_
                        refine V_top (b := (n : Int) + 1) (rfl) ?_
                        refine V_put X (ci := 7) (89) (by decide) (rfl) (by decide) rfl (fun _ h => List.mem_cons_of_mem _ (List.mem_append_right _ h)) 11 (by decide) (List.mem_of_getElem? (i := 1) rfl) rfl tyX7 tyX7_ok nmX7 rfl rfl rfl rfl rfl (Nat.le_of_ble_eq_true rfl) dX7_drive_258 ?_
                        refine V_aload_n X 0 rfl dX7_drive_261 rfl ?_
                        refine V_iconst X dX7_drive_262 ?_
                        refine V_put X (ci := 7) (89) (by decide) (rfl) (by decide) rfl (fun _ h => List.mem_cons_of_mem _ (List.mem_append_right _ h)) 9 (by decide) (List.mem_of_getElem? (i := 16) rfl) rfl tyX7 tyX7_ok nmX7 rfl rfl rfl rfl rfl (Nat.le_of_ble_eq_true rfl) dX7_drive_263 ?_
                        refine V_iload X 6 rfl dX7_drive_266 ?_
                        exact V_iret X hr rfl ⟨by omega, by omega⟩ (by exact Or.inl ⟨⟨by omega, hT, hC⟩, hG, hcm, by omega, rfl, u18, hv, by rw [hu, hw, hzt]; rfl⟩) dX7_drive_268 (by decide) (by decide)
                      · skip
                        refine V_iconst X dX7_drive_244 ?_
                        refine V_goto X 250 dX7_drive_245 (by decide) ?_
                        refine V_top (b := bsM D gh) (by unfold bsM; rw [if_pos (by omega)]) ?_
                        refine V_iast X (N := 30) (106) (by decide) (rfl) (rfl) (by decide) (n) (rfl) (by omega) dX7_drive_250 ?_
                        refine V_aload_n X 0 rfl dX7_drive_251 rfl ?_
                        refine V_dup X rfl dX7_drive_252 ?_
                        refine V_get X (ci := 7) (89) (by decide) (rfl) (by decide) rfl (fun _ h => List.mem_cons_of_mem _ (List.mem_append_right _ h)) 11 (by decide) (List.mem_of_getElem? (i := 1) rfl) rfl rfl dX7_drive_253 ?_
                        refine V_top (b := u1.1 89 11) (Eq.trans (rd_n (by decide)) (Eq.trans (rd_n (by decide)) (Eq.trans (rd_n (by decide)) (Eq.trans (rd_n (by decide)) (Eq.trans (rd_n (by decide)) (rd_n (by decide))))))) ?_
                        refine V_top (b := ((n : Nat) : Int)) ((h89 11 (by decide) (by decide)).trans hn) ?_
                        refine V_iconst X dX7_drive_256 ?_
                        refine V_iadd X dX7_drive_257 ?_
                        refine V_top (b := (n : Int) + 1) (rfl) ?_
                        refine V_put X (ci := 7) (89) (by decide) (rfl) (by decide) rfl (fun _ h => List.mem_cons_of_mem _ (List.mem_append_right _ h)) 11 (by decide) (List.mem_of_getElem? (i := 1) rfl) rfl tyX7 tyX7_ok nmX7 rfl rfl rfl rfl rfl (Nat.le_of_ble_eq_true rfl) dX7_drive_258 ?_
                        refine V_aload_n X 0 rfl dX7_drive_261 rfl ?_
                        refine V_iconst X dX7_drive_262 ?_
                        refine V_put X (ci := 7) (89) (by decide) (rfl) (by decide) rfl (fun _ h => List.mem_cons_of_mem _ (List.mem_append_right _ h)) 9 (by decide) (List.mem_of_getElem? (i := 16) rfl) rfl tyX7 tyX7_ok nmX7 rfl rfl rfl rfl rfl (Nat.le_of_ble_eq_true rfl) dX7_drive_263 ?_
                        refine V_iload X 6 rfl dX7_drive_266 ?_
                        exact V_iret X hr rfl ⟨by omega, by omega⟩ (by exact Or.inl ⟨⟨by omega, hT, hC⟩, hG, hcm, by omega, rfl, u18, hv, by rw [hu, hw, hzt]; rfl⟩) dX7_drive_268 (by decide) (by decide)
              · skip
                rintro i u1 _ hiN ⟨-, rfl, hu⟩ kk
                have hRu : RG u1 := hu ▸ cpM_RG hRw
                refine V_iload X 7 rfl dX7_drive_115 ?_
                refine V_aload_n X 0 rfl dX7_drive_117 rfl ?_
                refine V_get X (ci := 7) (89) (by decide) (rfl) (by decide) rfl (fun _ h => List.mem_cons_of_mem _ (List.mem_append_right _ h)) 30 (by decide) (List.mem_of_getElem? (i := 3) rfl) rfl rfl dX7_drive_118 ?_
                refine V_top (b := u18.1 89 30) (by rw [hu, cpM_n (by decide)]; exact hw30) ?_
                refine V_icmp_ge X 150 ⟨by omega, by omega⟩ (hf.2.2.2 _ _) dX7_drive_121 (by decide) (fun h => absurd h (by omega)) (fun _ => ?_)
                refine V_aload_n X 0 rfl dX7_drive_124 rfl ?_
                refine V_get X (ci := 7) (89) (by decide) (rfl) (by decide) rfl (fun _ h => List.mem_cons_of_mem _ (List.mem_append_right _ h)) 12 (by decide) (List.mem_of_getElem? (i := 5) rfl) rfl rfl dX7_drive_125 ?_
                refine V_bipush X (by decide) dX7_drive_128 ?_
                refine V_iload X 6 rfl dX7_drive_130 ?_
                refine V_imul X dX7_drive_132 ?_
                refine V_top (b := 60 * ((n : Nat) : Int)) (rfl) ?_
                refine V_iload X 7 rfl dX7_drive_133 ?_
                refine V_iadd X dX7_drive_135 ?_
                refine V_top (b := ((60 * n + i : Nat) : Int)) (by omega) ?_
                refine V_aload_n X 0 rfl dX7_drive_136 rfl ?_
                refine V_get X (ci := 7) (89) (by decide) (rfl) (by decide) rfl (fun _ h => List.mem_cons_of_mem _ (List.mem_append_right _ h)) 10 (by decide) (List.mem_of_getElem? (i := 6) rfl) rfl rfl dX7_drive_137 ?_
                refine V_iload X 7 rfl dX7_drive_140 ?_
                refine V_cald X (N := 60) (96) (by decide) (rfl) (rfl) (by decide) (i) (rfl) (by omega) dX7_drive_142 ?_
                refine V_top (b := w.1 96 i) (by rw [hu, cpM_n (by decide)]) ?_
                have hcc : 0 ≤ w.1 96 i ∧ w.1 96 i < 65536 := by rw [hw96]; exact hch i (by omega)
                refine V_cast X (N := 1800) (97) (by decide) (rfl) (rfl) (by decide) (60 * n + i) (rfl) (by omega) (by omega) (by omega) dX7_drive_143 ?_
                refine V_iinc X [(7, .int (iN (((i : Nat) : Int) + 1))), (0, .ref (ga g (89))), (1, .int (iN (dr))), (2, .int (iN (tr))), (3, .int (iN (ca))), (4, .int (iN (gh))), (5, .int (iN (0))), (6, .int (iN (((n : Nat) : Int))))] 7 (((i : Nat) : Int) + 1) (rfl) rfl dX7_drive_144 (by decide) rfl ?_
                refine V_goto X 115 dX7_drive_147 (by decide) ?_
                refine V_sub (lv' := [(0, .ref (ga g (89))), (1, .int (iN (dr))), (2, .int (iN (tr))), (3, .int (iN (ca))), (4, .int (iN (gh))), (5, .int (iN (0))), (6, .int (iN (((n : Nat) : Int)))), (7, .int (iN (((i : Nat) : Int) + 1)))]) [1, 2, 3, 4, 5, 6, 7, 0] rfl ?_
                refine V_lv (congrArg (fun q : Int => ([(0, .ref (ga g (89))), (1, .int (iN (dr))), (2, .int (iN (tr))), (3, .int (iN (ca))), (4, .int (iN (gh))), (5, .int (iN (0))), (6, .int (iN (((n : Nat) : Int)))), (7, .int (iN q))] : List (Nat × Value))) (show ((i : Nat) : Int) + 1 = (((i + 1) : Nat) : Int) from by omega)) ?_
                exact kk _ _ ⟨trivial, rfl, by rw [hu]; exact cpM_s⟩
            · skip
              refine V_iconst X dX7_drive_65 ?_
              refine V_goto X 70 dX7_drive_66 (by decide) ?_
              refine V_istore X [(5, .int (iN (4))), (0, .ref (ga g (89))), (1, .int (iN (dr))), (2, .int (iN (tr))), (3, .int (iN (ca))), (4, .int (iN (gh)))] dX7_drive_70 (by decide) rfl ?_
              refine V_aload_n X 1 rfl dX7_drive_72 rfl ?_
              refine V_iload X 0 rfl dX7_drive_73 ?_
              refine V_callV_I X (na := 1) (ci := 7) (b0 := 89) (by decide) (rfl) (by decide) rfl (m_X7_fails g l hl9 u18 hf.2.2.2 4 ⟨by decide, by decide⟩) gX7_drive_X7_fails rfl rfl rfl (by decide +kernel) ⟨Nat.le_of_ble_eq_true rfl, Nat.le_of_ble_eq_true rfl⟩ rfl rfl (Nat.le_of_ble_eq_true rfl) ⟨Nat.le_of_ble_eq_true rfl, Nat.le_of_ble_eq_true rfl⟩ dX7_drive_75 (fun z49 u50 z49r hp51 => ?_)
              obtain ⟨hz9, hu52⟩ := hp51
              have hu52 := hu52.symm
              subst hu52
              rw [if_pos (by decide)] at hz9
              subst hz9
              refine V_if_eq X 83 ⟨by decide, by decide⟩ dX7_drive_78 (by decide) (fun h => absurd h (by first | decide | omega)) (fun _ => ?_)
              refine V_iconst X dX7_drive_81 ?_
              exact V_iret X hr rfl ⟨by decide, by decide⟩ (by exact Or.inr (Or.inr (Or.inr (Or.inr ⟨⟨by omega, hT, hC⟩, hG, hcm, by omega, rfl, hf.sw 0 (by omega) ⟨by decide, by decide⟩⟩)))) dX7_drive_82 (by decide) (by decide)
          · skip
            subst hq
            refine V_if_ne X 56 ⟨by decide, by decide⟩ dX7_drive_49 (by decide) (fun h => absurd h (by first | decide | omega)) (fun _ => ?_)
            refine V_iconst X dX7_drive_52 ?_
            refine V_goto X 70 dX7_drive_53 (by decide) ?_
            refine V_istore X [(5, .int (iN (3))), (0, .ref (ga g (89))), (1, .int (iN (dr))), (2, .int (iN (tr))), (3, .int (iN (ca))), (4, .int (iN (gh)))] dX7_drive_70 (by decide) rfl ?_
            refine V_aload_n X 1 rfl dX7_drive_72 rfl ?_
            refine V_iload X 0 rfl dX7_drive_73 ?_
            refine V_callV_I X (na := 1) (ci := 7) (b0 := 89) (by decide) (rfl) (by decide) rfl (m_X7_fails g l hl9 u18 hf.2.2.2 3 ⟨by decide, by decide⟩) gX7_drive_X7_fails rfl rfl rfl (by decide +kernel) ⟨Nat.le_of_ble_eq_true rfl, Nat.le_of_ble_eq_true rfl⟩ rfl rfl (Nat.le_of_ble_eq_true rfl) ⟨Nat.le_of_ble_eq_true rfl, Nat.le_of_ble_eq_true rfl⟩ dX7_drive_75 (fun z53 u54 z53r hp55 => ?_)
            obtain ⟨hz9, hu56⟩ := hp55
            have hu56 := hu56.symm
            subst hu56
            rw [if_pos (by decide)] at hz9
            subst hz9
            refine V_if_eq X 83 ⟨by decide, by decide⟩ dX7_drive_78 (by decide) (fun h => absurd h (by first | decide | omega)) (fun _ => ?_)
            refine V_iconst X dX7_drive_81 ?_
            exact V_iret X hr rfl ⟨by decide, by decide⟩ (by exact Or.inr (Or.inr (Or.inr (Or.inl ⟨⟨by omega, hT, hC⟩, hG, hcm, rfl, hf.sw 0 (by omega) ⟨by decide, by decide⟩⟩)))) dX7_drive_82 (by decide) (by decide)
        · skip
          rw [if_neg hG] at hz9
          subst hz9
          refine V_if_ne X 43 ⟨by decide, by decide⟩ dX7_drive_36 (by decide) (fun h => absurd h (by first | decide | omega)) (fun _ => ?_)
          refine V_iconst X dX7_drive_39 ?_
          refine V_goto X 70 dX7_drive_40 (by decide) ?_
          refine V_istore X [(5, .int (iN (2))), (0, .ref (ga g (89))), (1, .int (iN (dr))), (2, .int (iN (tr))), (3, .int (iN (ca))), (4, .int (iN (gh)))] dX7_drive_70 (by decide) rfl ?_
          refine V_aload_n X 1 rfl dX7_drive_72 rfl ?_
          refine V_iload X 0 rfl dX7_drive_73 ?_
          refine V_callV_I X (na := 1) (ci := 7) (b0 := 89) (by decide) (rfl) (by decide) rfl (m_X7_fails g l hl9 σ hR 2 ⟨by decide, by decide⟩) gX7_drive_X7_fails rfl rfl rfl (by decide +kernel) ⟨Nat.le_of_ble_eq_true rfl, Nat.le_of_ble_eq_true rfl⟩ rfl rfl (Nat.le_of_ble_eq_true rfl) ⟨Nat.le_of_ble_eq_true rfl, Nat.le_of_ble_eq_true rfl⟩ dX7_drive_75 (fun z57 u58 z57r hp59 => ?_)
          obtain ⟨hz9, hu60⟩ := hp59
          have hu60 := hu60.symm
          subst hu60
          rw [if_pos (by decide)] at hz9
          subst hz9
          refine V_if_eq X 83 ⟨by decide, by decide⟩ dX7_drive_78 (by decide) (fun h => absurd h (by first | decide | omega)) (fun _ => ?_)
          refine V_iconst X dX7_drive_81 ?_
          exact V_iret X hr rfl ⟨by decide, by decide⟩ (by exact Or.inr (Or.inr (Or.inl ⟨⟨by omega, hT, hC⟩, hG, rfl, (FrM.rf hR).sw 0 (by omega) ⟨by decide, by decide⟩⟩))) dX7_drive_82 (by decide) (by decide)
      · skip
        rw [if_neg hC] at hz9
        subst hz9
        refine V_if_eq X 29 ⟨by decide, by decide⟩ dX7_drive_22 (by decide) (fun h => absurd h (by first | decide | omega)) (fun _ => ?_)
        refine V_iconst X dX7_drive_25 ?_
        refine V_goto X 70 dX7_drive_26 (by decide) ?_
        refine V_istore X [(5, .int (iN (1))), (0, .ref (ga g (89))), (1, .int (iN (dr))), (2, .int (iN (tr))), (3, .int (iN (ca))), (4, .int (iN (gh)))] dX7_drive_70 (by decide) rfl ?_
        refine V_aload_n X 1 rfl dX7_drive_72 rfl ?_
        refine V_iload X 0 rfl dX7_drive_73 ?_
        refine V_callV_I X (na := 1) (ci := 7) (b0 := 89) (by decide) (rfl) (by decide) rfl (m_X7_fails g l hl9 σ hR 1 ⟨by decide, by decide⟩) gX7_drive_X7_fails rfl rfl rfl (by decide +kernel) ⟨Nat.le_of_ble_eq_true rfl, Nat.le_of_ble_eq_true rfl⟩ rfl rfl (Nat.le_of_ble_eq_true rfl) ⟨Nat.le_of_ble_eq_true rfl, Nat.le_of_ble_eq_true rfl⟩ dX7_drive_75 (fun z61 u62 z61r hp63 => ?_)
        obtain ⟨hz9, hu64⟩ := hp63
        have hu64 := hu64.symm
        subst hu64
        rw [if_pos (by decide)] at hz9
        subst hz9
        refine V_if_eq X 83 ⟨by decide, by decide⟩ dX7_drive_78 (by decide) (fun h => absurd h (by first | decide | omega)) (fun _ => ?_)
        refine V_iconst X dX7_drive_81 ?_
        exact V_iret X hr rfl ⟨by decide, by decide⟩ (by exact Or.inr (Or.inl ⟨by omega, rfl, (FrM.rf hR).sw 0 (by omega) ⟨by decide, by decide⟩⟩)) dX7_drive_82 (by decide) (by decide)
    · skip
      rw [if_neg hT] at hz9
      subst hz9
      refine V_if_ne X 25 ⟨by decide, by decide⟩ dX7_drive_14 (by decide) (fun _ => ?_) (fun h => absurd h (by first | decide | omega))
      refine V_iconst X dX7_drive_25 ?_
      refine V_goto X 70 dX7_drive_26 (by decide) ?_
      refine V_istore X [(5, .int (iN (1))), (0, .ref (ga g (89))), (1, .int (iN (dr))), (2, .int (iN (tr))), (3, .int (iN (ca))), (4, .int (iN (gh)))] dX7_drive_70 (by decide) rfl ?_
      refine V_aload_n X 1 rfl dX7_drive_72 rfl ?_
      refine V_iload X 0 rfl dX7_drive_73 ?_
      refine V_callV_I X (na := 1) (ci := 7) (b0 := 89) (by decide) (rfl) (by decide) rfl (m_X7_fails g l hl9 σ hR 1 ⟨by decide, by decide⟩) gX7_drive_X7_fails rfl rfl rfl (by decide +kernel) ⟨Nat.le_of_ble_eq_true rfl, Nat.le_of_ble_eq_true rfl⟩ rfl rfl (Nat.le_of_ble_eq_true rfl) ⟨Nat.le_of_ble_eq_true rfl, Nat.le_of_ble_eq_true rfl⟩ dX7_drive_75 (fun z65 u66 z65r hp67 => ?_)
      obtain ⟨hz9, hu68⟩ := hp67
      have hu68 := hu68.symm
      subst hu68
      rw [if_pos (by decide)] at hz9
      subst hz9
      refine V_if_eq X 83 ⟨by decide, by decide⟩ dX7_drive_78 (by decide) (fun h => absurd h (by first | decide | omega)) (fun _ => ?_)
      refine V_iconst X dX7_drive_81 ?_
      exact V_iret X hr rfl ⟨by decide, by decide⟩ (by exact Or.inr (Or.inl ⟨by omega, rfl, (FrM.rf hR).sw 0 (by omega) ⟨by decide, by decide⟩⟩)) dX7_drive_82 (by decide) (by decide)
  · skip
    rw [if_neg hE] at hz9
    subst hz9
    refine V_if_eq X 25 ⟨by decide, by decide⟩ dX7_drive_6 (by decide) (fun _ => ?_) (fun h => absurd h (by first | decide | omega))
    refine V_iconst X dX7_drive_25 ?_
    refine V_goto X 70 dX7_drive_26 (by decide) ?_
    refine V_istore X [(5, .int (iN (1))), (0, .ref (ga g (89))), (1, .int (iN (dr))), (2, .int (iN (tr))), (3, .int (iN (ca))), (4, .int (iN (gh)))] dX7_drive_70 (by decide) rfl ?_
    refine V_aload_n X 1 rfl dX7_drive_72 rfl ?_
    refine V_iload X 0 rfl dX7_drive_73 ?_
    refine V_callV_I X (na := 1) (ci := 7) (b0 := 89) (by decide) (rfl) (by decide) rfl (m_X7_fails g l hl9 σ hR 1 ⟨by decide, by decide⟩) gX7_drive_X7_fails rfl rfl rfl (by decide +kernel) ⟨Nat.le_of_ble_eq_true rfl, Nat.le_of_ble_eq_true rfl⟩ rfl rfl (Nat.le_of_ble_eq_true rfl) ⟨Nat.le_of_ble_eq_true rfl, Nat.le_of_ble_eq_true rfl⟩ dX7_drive_75 (fun z69 u70 z69r hp71 => ?_)
    obtain ⟨hz9, hu72⟩ := hp71
    have hu72 := hu72.symm
    subst hu72
    rw [if_pos (by decide)] at hz9
    subst hz9
    refine V_if_eq X 83 ⟨by decide, by decide⟩ dX7_drive_78 (by decide) (fun h => absurd h (by first | decide | omega)) (fun _ => ?_)
    refine V_iconst X dX7_drive_81 ?_
    exact V_iret X hr rfl ⟨by decide, by decide⟩ (by exact Or.inr (Or.inl ⟨by omega, rfl, (FrM.rf hR).sw 0 (by omega) ⟨by decide, by decide⟩⟩)) dX7_drive_82 (by decide) (by decide)
