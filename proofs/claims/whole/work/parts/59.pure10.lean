/-! ===== behind both drives ===== -/
/-- the rows of the class behind its drive -/
theorem drv_rows {v : St} {n : Nat} {dr tr ca gh : Int} (hn : n < 30) (ht : tr.toNat < 4) (h5 : v.1 5 1 = (n : Int)) :
    (∀ q, q ≠ 7 + 2 * n → q ≠ 7 + 2 * n + 1 → q ≠ 5 → q ≠ 73 + 3 * tr.toNat → q ≠ 0 → (drvF v n dr tr ca gh).1 q = v.1 q) ∧
    (∀ k, (drvF v n dr tr ca gh).1 0 k = if k = 5 then 0 else v.1 0 k) ∧ (drvF v n dr tr ca gh).1 5 1 = (n : Int) + 1 ∧ (∀ k, (drvF v n dr tr ca gh).1 (73 + 3 * tr.toNat) k = if k = 4 then 1 else v.1 (73 + 3 * tr.toNat) k) ∧
    (∀ k, (drvF v n dr tr ca gh).1 (7 + 2 * n + 1) k = if k < (v.1 4 2).toNat then v.1 3 k else v.1 (7 + 2 * n + 1) k) ∧
    ((drvF v n dr tr ca gh).1 (7 + 2 * n) 1 = v.1 4 2 ∧ (drvF v n dr tr ca gh).1 (7 + 2 * n) 2 = v.1 4 3 ∧ (drvF v n dr tr ca gh).1 (7 + 2 * n) 3 = dr ∧ (drvF v n dr tr ca gh).1 (7 + 2 * n) 4 = tr ∧ (drvF v n dr tr ca gh).1 (7 + 2 * n) 5 = ca ∧ (drvF v n dr tr ca gh).1 (7 + 2 * n) 6 = gh ∧ (drvF v n dr tr ca gh).1 (7 + 2 * n) 7 = rndF v tr ∧ (drvF v n dr tr ca gh).1 (7 + 2 * n) 8 = v.1 (7 + 2 * n) 8 ∧ (drvF v n dr tr ca gh).1 (7 + 2 * n) 9 = 1) ∧
    (∀ b, b = adB (dv2 v n dr tr ca gh) n n → (drvF v n dr tr ca gh).1 (7 + 2 * n) 10 = b ∧ (drvF v n dr tr ca gh).1 (7 + 2 * n) 12 = stF (dv2 v n dr tr ca gh) n n b ∧ (drvF v n dr tr ca gh).1 (7 + 2 * n) 11 = if 0 ≤ b ∧ b < n then (dv2 v n dr tr ca gh).1 (7 + 2 * b.toNat) 11 + 1 else 0) := by
  have k2 : ∀ q, q ≠ 7 + 2 * n → q ≠ 7 + 2 * n + 1 → (dv2 v n dr tr ca gh).1 q = v.1 q := fun q h1 h2 => by
    unfold dv2
    rw [kp_o h1 h2, dv1_o h1]
  have e42 : (dv1 v n dr tr ca gh).1 4 2 = v.1 4 2 := by rw [dv1_o (by omega)]
  have e43 : (dv1 v n dr tr ca gh).1 4 3 = v.1 4 3 := by rw [dv1_o (by omega)]
  have kL : ∀ k, k ≠ 1 → k ≠ 2 → k ≠ 9 → (dv2 v n dr tr ca gh).1 (7 + 2 * n) k = (dv1 v n dr tr ca gh).1 (7 + 2 * n) k := fun k h1 h2 h3 => by
    unfold dv2 keepF
    rw [rd_k h3, rd_k h2, rd_k h1, cpyT_n (by omega)]
  have kA : ∀ k, k ≠ 10 → k ≠ 11 → k ≠ 12 → (drvF v n dr tr ca gh).1 (7 + 2 * n) k = (dv2 v n dr tr ca gh).1 (7 + 2 * n) k := fun k h1 h2 h3 => by
    unfold drvF addF
    rw [rd_n (by omega), rd_n (by omega), rd_n (by omega), rd_k h2, rd_k h3, rd_k h1]
  refine ⟨fun q h1 h2 h3 h4 h5 => ?_, fun k => ?_, ?_, fun k => ?_, fun k => ?_, ⟨?_, ?_, ?_, ?_, ?_, ?_, ?_, ?_, ?_⟩, fun b hb => ⟨?_, ?_, ?_⟩⟩
  · unfold drvF addF
    rw [sw_ne h5, sw_ne h4, sw_ne h3, sw_ne h1, sw_ne h1, sw_ne h1, k2 q h1 h2]
  · unfold drvF addF
    rw [sw_get, rd_n (by omega), rd_n (by omega), rd_n (by omega), rd_n (by omega), rd_n (by omega), k2 0 (by omega) (by omega)]
    simp
  · unfold drvF addF
    rw [rd_n (by omega), rd_n (by omega), rd_s, k2 5 (by omega) (by omega), h5]
  · unfold drvF addF
    rw [rd_n (by omega), sw_get, rd_n (by omega), rd_n (by omega), rd_n (by omega), rd_n (by omega), k2 _ (by omega) (by omega)]
    simp
  · unfold drvF addF
    rw [rd_n (by omega), rd_n (by omega), rd_n (by omega), rd_n (by omega), rd_n (by omega), rd_n (by omega)]
    unfold dv2 keepF
    rw [rd_n (by omega), rd_n (by omega), rd_n (by omega), e42]
    have o3 : (dv1 v n dr tr ca gh).1 3 = v.1 3 := dv1_o (by omega)
    have oi : (dv1 v n dr tr ca gh).1 (7 + 2 * n + 1) = v.1 (7 + 2 * n + 1) := dv1_o (by omega)
    simp only [cpyT, if_true, o3, oi]
  · rw [kA 1 (by decide) (by decide) (by decide)]
    unfold dv2
    rw [kp_1, e42]
  · rw [kA 2 (by decide) (by decide) (by decide)]
    unfold dv2 keepF
    rw [rd_k (by decide), rd_s, e43]
  · rw [kA 3 (by decide) (by decide) (by decide), kL 3 (by decide) (by decide) (by decide)]
    unfold dv1 dv0
    rw [rd_k (by decide), rd_k (by decide), rd_k (by decide), rd_k (by decide), rd_s]
  · rw [kA 4 (by decide) (by decide) (by decide), kL 4 (by decide) (by decide) (by decide)]
    unfold dv1 dv0
    rw [rd_k (by decide), rd_k (by decide), rd_k (by decide), rd_s]
  · rw [kA 5 (by decide) (by decide) (by decide), kL 5 (by decide) (by decide) (by decide)]
    unfold dv1 dv0
    rw [rd_k (by decide), rd_k (by decide), rd_s]
  · rw [kA 6 (by decide) (by decide) (by decide), kL 6 (by decide) (by decide) (by decide)]
    unfold dv1 dv0
    rw [rd_k (by decide), rd_s]
  · rw [kA 7 (by decide) (by decide) (by decide), kL 7 (by decide) (by decide) (by decide)]
    unfold dv1
    rw [rd_s]
  · rw [kA 8 (by decide) (by decide) (by decide), kL 8 (by decide) (by decide) (by decide)]
    unfold dv1 dv0
    rw [rd_k (by decide), rd_k (by decide), rd_k (by decide), rd_k (by decide), rd_k (by decide)]
  · rw [kA 9 (by decide) (by decide) (by decide)]
    unfold dv2 keepF
    rw [rd_s]
  · subst hb
    unfold drvF addF
    rw [rd_n (by omega), rd_n (by omega), rd_n (by omega), rd_k (by decide), rd_k (by decide), rd_s]
  · subst hb
    unfold drvF addF
    rw [rd_n (by omega), rd_n (by omega), rd_n (by omega), rd_k (by decide), rd_s]
  · subst hb
    unfold drvF addF
    rw [rd_n (by omega), rd_n (by omega), rd_n (by omega), rd_s]
/-- the rows of the reference behind its drive -/
theorem dm_rows {v : St} {n : Nat} {dr tr ca gh rd bs T : Int} (hn : n < 30) :
    (∀ q, q ≠ 89 → (q < 97 ∨ 107 ≤ q ∨ q = 100) → (dmF v n dr tr ca gh rd bs T).1 q = v.1 q) ∧
    (∀ k, k ≠ 0 → (dmF v n dr tr ca gh rd bs T).1 89 k = if k = 11 then (n : Int) + 1 else if k = 9 then 0 else v.1 89 k) ∧
    (∀ k, (dmF v n dr tr ca gh rd bs T).1 97 k = if 60 * n ≤ k ∧ k < 60 * n + (v.1 89 30).toNat then v.1 96 (k - 60 * n) else v.1 97 k) ∧
    (∀ k, (dmF v n dr tr ca gh rd bs T).1 98 k = if k = n then v.1 89 30 else v.1 98 k) ∧ (∀ k, (dmF v n dr tr ca gh rd bs T).1 99 k = if k = n then T else v.1 99 k) ∧ (∀ k, (dmF v n dr tr ca gh rd bs T).1 101 k = if k = n then dr else v.1 101 k) ∧ (∀ k, (dmF v n dr tr ca gh rd bs T).1 102 k = if k = n then tr else v.1 102 k) ∧ (∀ k, (dmF v n dr tr ca gh rd bs T).1 103 k = if k = n then ca else v.1 103 k) ∧
    (∀ k, (dmF v n dr tr ca gh rd bs T).1 104 k = if k = n then gh else v.1 104 k) ∧ (∀ k, (dmF v n dr tr ca gh rd bs T).1 105 k = if k = n then rd else v.1 105 k) ∧ (∀ k, (dmF v n dr tr ca gh rd bs T).1 106 k = if k = n then bs else v.1 106 k) := by
  have hA : ∀ q, q ≠ 98 → q ≠ 99 → (dmA (sw v 89 0 0) n T).1 q = (sw v 89 0 0).1 q := fun q h1 h2 => by
    unfold dmA
    rw [sw_ne h2, sw_ne h1]
  have hB : ∀ q, q ≠ 97 → (cpM (dmA (sw v 89 0 0) n T) n (v.1 89 30).toNat).1 q = (dmA (sw v 89 0 0) n T).1 q := fun q h => cpM_n h
  refine ⟨fun q h1 h2 => ?_, fun k hk => ?_, fun k => ?_, fun k => ?_, fun k => ?_, fun k => ?_, fun k => ?_, fun k => ?_, fun k => ?_, fun k => ?_, fun k => ?_⟩
  · unfold dmF
    rw [sw_ne h1, sw_ne h1, sw_ne (by omega), sw_ne (by omega), sw_ne (by omega), sw_ne (by omega), sw_ne (by omega), sw_ne (by omega), hB q (by omega), hA q (by omega) (by omega), sw_ne h1]
  · unfold dmF
    rw [sw_get, sw_get, rd_n (by decide), rd_n (by decide), rd_n (by decide), rd_n (by decide), rd_n (by decide), rd_n (by decide), hB 89 (by decide), hA 89 (by decide) (by decide), rd_k hk]
    by_cases e : k = 9
    · simp [e]
    · by_cases e2 : k = 11
      · simp [e2]
      · simp [e, e2]
  · unfold dmF
    rw [rd_n (by decide), rd_n (by decide), rd_n (by decide), rd_n (by decide), rd_n (by decide), rd_n (by decide), rd_n (by decide), rd_n (by decide), cpM_7, hA 96 (by decide) (by decide), hA 97 (by decide) (by decide), rd_n (by decide), rd_n (by decide)]
  · unfold dmF
    rw [rd_n (by decide), rd_n (by decide), rd_n (by decide), rd_n (by decide), rd_n (by decide), rd_n (by decide), rd_n (by decide), rd_n (by decide), hB 98 (by decide)]
    unfold dmA
    rw [rd_n (by decide), sw_get, rd_k (by decide), rd_n (by decide)]
    simp
  · unfold dmF
    rw [rd_n (by decide), rd_n (by decide), rd_n (by decide), rd_n (by decide), rd_n (by decide), rd_n (by decide), rd_n (by decide), rd_n (by decide), hB 99 (by decide)]
    unfold dmA
    rw [sw_get, rd_n (by decide), rd_n (by decide)]
    simp
  · unfold dmF
    rw [rd_n (by decide), rd_n (by decide), rd_n (by decide), rd_n (by decide), rd_n (by decide), rd_n (by decide), rd_n (by decide), sw_get, hB 101 (by decide), hA 101 (by decide) (by decide), rd_n (by decide)]
    simp
  · unfold dmF
    rw [rd_n (by decide), rd_n (by decide), rd_n (by decide), rd_n (by decide), rd_n (by decide), rd_n (by decide), sw_get, rd_n (by decide), hB 102 (by decide), hA 102 (by decide) (by decide), rd_n (by decide)]
    simp
  · unfold dmF
    rw [rd_n (by decide), rd_n (by decide), rd_n (by decide), rd_n (by decide), rd_n (by decide), sw_get, rd_n (by decide), rd_n (by decide), hB 103 (by decide), hA 103 (by decide) (by decide), rd_n (by decide)]
    simp
  · unfold dmF
    rw [rd_n (by decide), rd_n (by decide), rd_n (by decide), rd_n (by decide), sw_get, rd_n (by decide), rd_n (by decide), rd_n (by decide), hB 104 (by decide), hA 104 (by decide) (by decide), rd_n (by decide)]
    simp
  · unfold dmF
    rw [rd_n (by decide), rd_n (by decide), rd_n (by decide), sw_get, rd_n (by decide), rd_n (by decide), rd_n (by decide), rd_n (by decide), hB 105 (by decide), hA 105 (by decide) (by decide), rd_n (by decide)]
    simp
  · unfold dmF
    rw [rd_n (by decide), rd_n (by decide), sw_get, rd_n (by decide), rd_n (by decide), rd_n (by decide), rd_n (by decide), rd_n (by decide), hB 106 (by decide), hA 106 (by decide) (by decide), rd_n (by decide)]
    simp
/-- both drives together -/
theorem JJ.drp {σ v y v2 : St} {n ty R D : Nat} {dr tr ca gh T2 : Int} (h : JJ σ n ty R D) (hn : n < 30) (htr : 0 ≤ tr ∧ tr < σ.1 89 1) (hca : 0 ≤ ca ∧ ca < σ.1 89 5) (hg : ghM σ gh tr) (hcan : canM σ tr.toNat ca.toNat ty)
    (hf : FlR σ tr.toNat ca.toNat (σ.1 3) ty v) (hy : y.1 = (drvF v n dr tr ca gh).1) (hm : MrP y tr.toNat ca.toNat (y.1 96) ty v2) :
    DrP σ n dr tr ca gh (rndG σ tr) (bsM (dpR σ) gh) (rideM σ tr.toNat ca.toNat (σ.1 96) ty).2.2.1 (tmM σ tr.toNat (rideM σ tr.toNat ca.toNat (σ.1 96) ty)) (dmF v2 n dr tr ca gh (rndG y tr) (bsM (dpR σ) gh) (tmM y tr.toNat (rideM y tr.toNat ca.toNat (y.1 96) ty))) := by
  have hc := h.2.1
  have hMD := h.MD
  have hL := h.2.2.2.2.2.2.2
  unfold JC at hc
  have htn : tr.toNat < 4 := by omega
  have hcn : ca.toNat < 4 := by omega
  have hca2 := h.can htn hcn
  have hfr := hf.fr
  have hv : ∀ q, q ≠ 4 → v.1 q = σ.1 q := hfr.1
  have v42 : v.1 4 2 = (rideM σ tr.toNat ca.toNat (σ.1 96) ty).2.2.1 := by rw [← hca2.1]; exact hf.2.2.2.1
  have v43 : v.1 4 3 = tmM σ tr.toNat (rideM σ tr.toNat ca.toNat (σ.1 96) ty) := by
    rw [← h.tm htn (show (rideM σ tr.toNat ca.toNat (σ.1 96) ty).2.2.2 = true from hcan.2), ← hca2.1]
    exact hf.2.2.2.2.2
  obtain ⟨c0, c1, c2, c3, c4, ⟨e1, e2, e3, e4, e5, e6, e7, e8, e9⟩, c6⟩ := drv_rows (v := v) (n := n) (dr := dr) (tr := tr) (ca := ca) (gh := gh) hn htn (by rw [hv 5 (by decide)]; omega)
  rw [← hy] at c0 c1 c2 c3 c4 e1 e2 e3 e4 e5 e6 e7 e8 e9 c6
  have yo : ∀ q, q ≠ 4 → q ≠ 7 + 2 * n → q ≠ 7 + 2 * n + 1 → q ≠ 5 → q ≠ 73 + 3 * tr.toNat → q ≠ 0 → y.1 q = σ.1 q := fun q h1 h2 h3 h4 h5 h6 => by rw [c0 q h2 h3 h4 h5 h6, hv q h1]
  have ym : ∀ q, 89 ≤ q → y.1 q = σ.1 q := fun q hq => yo q (by omega) (by omega) (by omega) (by omega) (by omega) (by omega)
  have yr := rideM_rows (σ := σ) (u := y) (t := tr.toNat) (c := ca.toNat) (ym 90 (by decide)) (ym 91 (by decide)) (ym 92 (by decide)) (ym 93 (by decide)) (ym 94 (by decide)) (ym 95 (by decide))
  have eri : rideM y tr.toNat ca.toNat (y.1 96) ty = rideM σ tr.toNat ca.toNat (σ.1 96) ty := by rw [yr.1, ym 96 (by decide)]
  have etm : tmM y tr.toNat (rideM y tr.toNat ca.toNat (y.1 96) ty) = tmM σ tr.toNat (rideM σ tr.toNat ca.toNat (σ.1 96) ty) := by
    rw [eri]
    unfold tmM
    rw [yr.2]
  have erd : rndG y tr = rndG σ tr := by unfold rndG; rw [ym 89 (by decide), ym 108 (by decide)]
  have erf : rndF v tr = rndG σ tr := by
    unfold rndF rndG
    rw [hv 67 (by decide), hv 68 (by decide)]
    rcases hc.2.2.2.2.2.2 with ⟨a1, a2⟩ | ⟨a1, a2, a3⟩
    · rw [if_neg (by omega), if_neg (by omega)]
    · have es : σ.1 68 (σ.1 67 2).toNat = σ.1 108 (σ.1 89 23 - 1).toNat := by
        rw [show (σ.1 89 23 - 1).toNat = (σ.1 67 2).toNat by omega]
        exact h.2.2.2.2.1 _ (by omega)
      by_cases q : σ.1 108 (σ.1 89 23 - 1).toNat = tr
      · rw [if_pos (by omega), if_pos (by omega)]; omega
      · rw [if_neg (by omega), if_neg (by omega)]
  have v30 : v2.1 89 30 = (rideM σ tr.toNat ca.toNat (σ.1 96) ty).2.2.1 := by rw [← eri]; exact hm.2.2.2.1
  have fm := hm.1
  have vo : ∀ q, q ≠ 89 → q ≠ 109 → v2.1 q = y.1 q := fm.1
  obtain ⟨m0, m1, m2, m3, m4, m5, m6, m7, m8, m9, m10⟩ := dm_rows (v := v2) (n := n) (dr := dr) (tr := tr) (ca := ca) (gh := gh) (rd := rndG y tr) (bs := bsM (dpR σ) gh) (T := tmM y tr.toNat (rideM y tr.toNat ca.toNat (y.1 96) ty)) hn
  have adb : adB (dv2 v n dr tr ca gh) n n = bsM (dpR σ) gh := by
    have o2 : ∀ q, q ≠ 7 + 2 * n → q ≠ 7 + 2 * n + 1 → (dv2 v n dr tr ca gh).1 q = v.1 q := fun q h1 h2 => by
      unfold dv2
      rw [kp_o h1 h2, dv1_o h1]
    have o6 : (dv2 v n dr tr ca gh).1 (7 + 2 * n) 6 = gh := by
      unfold dv2 keepF dv1 dv0
      rw [rd_k (by decide), rd_k (by decide), rd_k (by decide), cpyT_n (by omega), rd_k (by decide), rd_s]
    unfold adB
    rw [o6]
    have hgr : gh = -1 ∨ ((0 ≤ gh ∧ gh < (n : Int)) ∧ dpR σ gh.toNat ≤ 5) := by
      unfold ghM at hg
      rcases hg with e | ⟨e1, -, -⟩
      · exact Or.inl e
      · have := (hMD gh.toNat (by omega)).1
        exact Or.inr ⟨by omega, this.2⟩
    rw [← adB_eq (n := n) (d := dpR σ) hgr]
    by_cases q : 0 ≤ gh ∧ gh < (n : Int)
    · have eo : (dv2 v n dr tr ca gh).1 (7 + 2 * gh.toNat) 11 = dpR σ gh.toNat := by rw [o2 _ (by omega) (by omega), hv _ (by omega)]; rfl
      rw [eo]
    · rw [if_neg (fun z => q z.1), if_neg (fun z => q z.1)]
  have c7 := c6 _ rfl
  rw [adb] at c7
  rw [etm, erd] at m0 m1 m2 m3 m4 m5 m6 m7 m8 m9 m10
  rw [etm, erd]
  have o2 : ∀ q, q ≠ 7 + 2 * n → q ≠ 7 + 2 * n + 1 → (dv2 v n dr tr ca gh).1 q = v.1 q := fun q h1 h2 => by
    unfold dv2
    rw [kp_o h1 h2, dv1_o h1]
  have o1 : (dv2 v n dr tr ca gh).1 (7 + 2 * n) 1 = (rideM σ tr.toNat ca.toNat (σ.1 96) ty).2.2.1 := by
    unfold dv2
    rw [kp_1, dv1_o (by omega), v42]
  have oI : ∀ k, k < (rideM σ tr.toNat ca.toNat (σ.1 96) ty).2.2.1.toNat → (dv2 v n dr tr ca gh).1 (7 + 2 * n + 1) k = σ.1 3 k := fun k hk => by
    unfold dv2 keepF
    rw [rd_n (by omega), rd_n (by omega), rd_n (by omega)]
    have e42 : (dv1 v n dr tr ca gh).1 4 2 = v.1 4 2 := by rw [dv1_o (by omega)]
    have o3 : (dv1 v n dr tr ca gh).1 3 = v.1 3 := dv1_o (by omega)
    simp only [cpyT, if_true, o3, e42, v42]
    rw [if_pos hk, hv 3 (by decide)]
  have hbs : -1 ≤ bsM (dpR σ) gh ∧ bsM (dpR σ) gh < (n : Int) := by
    unfold bsM
    unfold ghM at hg
    split
    · omega
    · rcases hg with e | ⟨e, -, -⟩ <;> omega
  have w0 : ∀ q k, q ≠ 89 → q ≠ 109 → (q < 97 ∨ 107 ≤ q ∨ q = 100) → (dmF v2 n dr tr ca gh (rndG σ tr) (bsM (dpR σ) gh) (tmM σ tr.toNat (rideM σ tr.toNat ca.toNat (σ.1 96) ty))).1 q k = y.1 q k := fun q k h1 h2 h3 => by rw [m0 q h1 h3, vo q h1 h2]
  refine ⟨fun q h1 h2 h3 h4 h5 h6 h7 h8 h9 h10 => ?_, fun k => ?_, ?_, fun k h1 h2 => ?_, fun k => ?_, fun k => ?_, fun k => ?_, fun k => ?_, fun k => ?_, fun k => ?_, fun k => ?_, fun k => ?_, fun k => ?_, fun k => ?_, fun k => ?_, ⟨?_, ?_, ?_, ?_, ?_, ?_, ?_, ?_, ?_, ?_⟩, ?_, ?_⟩
  · rw [m0 q h4 h9, vo q h4 h5, yo q h1 h7 h8 h3 h6 h2]
  · rw [w0 0 k (by decide) (by decide) (by decide), c1, hv 0 (by decide)]
  · rw [w0 5 1 (by decide) (by decide) (by decide), c2]
  · rw [m1 k h1, fm.2.1 k h1 h2, ym 89 (by decide)]
  · rw [w0 _ k (by omega) (by omega) (by omega), c3, hv _ (by omega)]
  · rw [m2, v30, vo 96 (by decide) (by decide), vo 97 (by decide) (by decide), ym 96 (by decide), ym 97 (by decide)]
  · rw [m3, v30, vo 98 (by decide) (by decide), ym 98 (by decide)]
  · rw [m4, vo 99 (by decide) (by decide), ym 99 (by decide)]
  · rw [m5, vo 101 (by decide) (by decide), ym 101 (by decide)]
  · rw [m6, vo 102 (by decide) (by decide), ym 102 (by decide)]
  · rw [m7, vo 103 (by decide) (by decide), ym 103 (by decide)]
  · rw [m8, vo 104 (by decide) (by decide), ym 104 (by decide)]
  · rw [m9, vo 105 (by decide) (by decide), ym 105 (by decide)]
  · rw [m10, vo 106 (by decide) (by decide), ym 106 (by decide)]
  · rw [w0 _ k (by omega) (by omega) (by omega), c4, v42, hv 3 (by decide), hv _ (by omega)]
  · rw [w0 _ _ (by omega) (by omega) (by omega), e1, v42]
  · rw [w0 _ _ (by omega) (by omega) (by omega), e2, v43]
  · rw [w0 _ _ (by omega) (by omega) (by omega), e3]
  · rw [w0 _ _ (by omega) (by omega) (by omega), e4]
  · rw [w0 _ _ (by omega) (by omega) (by omega), e5]
  · rw [w0 _ _ (by omega) (by omega) (by omega), e6]
  · rw [w0 _ _ (by omega) (by omega) (by omega), e7, erf]
  · rw [w0 _ _ (by omega) (by omega) (by omega), e8, hv _ (by omega)]
  · rw [w0 _ _ (by omega) (by omega) (by omega), e9]
  · rw [w0 _ _ (by omega) (by omega) (by omega), c7.1]
  · rw [w0 _ _ (by omega) (by omega) (by omega), c7.2.2]
    by_cases q : 0 ≤ bsM (dpR σ) gh
    · rw [if_pos ⟨q, hbs.2⟩, if_pos q, o2 _ (by omega) (by omega), hv _ (by omega)]
    · rw [if_neg (fun z => q z.1), if_neg q]
  · rw [w0 _ _ (by omega) (by omega) (by omega), c7.2.1]
    unfold stF
    rw [o1]
    by_cases q : 0 ≤ bsM (dpR σ) gh
    · rw [if_pos ⟨q, hbs.2⟩, if_pos q, o2 (7 + 2 * (bsM (dpR σ) gh).toNat + 1) (by omega) (by omega), o2 (7 + 2 * (bsM (dpR σ) gh).toNat) (by omega) (by omega), hv _ (by omega), hv _ (by omega)]
      exact unlF_congr (fun k hk => oI k hk) (fun k _ => rfl)
    · rw [if_neg (fun z => q z.1), if_neg q]
