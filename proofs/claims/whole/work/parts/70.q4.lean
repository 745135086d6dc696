/-! ===== each call on both sides: a lap driven; floats; calls without a wrapper ===== -/
theorem drvF_RG {v : St} {n : Nat} {dr tr ca gh : Int} (h : RG v) (h1 : R32 dr) (h2 : R32 tr) (h3 : R32 ca) (h4 : R32 gh) (h5 : v.1 5 1 ≤ 30) : RG (drvF v n dr tr ca gh) := by
  have hRk : RG (dv2 v n dr tr ca gh) := kp_RG (dv1_RG h h1 h2 h3 h4)
  have e5 : (dv2 v n dr tr ca gh).1 5 1 = v.1 5 1 := by
    unfold dv2
    rw [kp_o (by omega) (by omega), dv1_o (by omega)]
  unfold drvF addF
  generalize dv2 v n dr tr ca gh = A at hRk e5 ⊢
  have ha1 := hRk 5 1
  have hb : R32 (adB A n n) := by
    unfold adB
    split
    · exact hRk _ _
    · exact ⟨by decide, by decide⟩
  have hst : R32 (stF A n n (adB A n n)) := by
    unfold stF
    split
    · have := hRk (7 + 2 * n) 1
      have hu := unlF_b (ia := A.1 (7 + 2 * n + 1)) (ib := A.1 (7 + 2 * (adB A n n).toNat + 1)) (tb := A.1 (7 + 2 * (adB A n n).toNat) 1) (A.1 (7 + 2 * n) 1).toNat
      exact ⟨by omega, by have := this.2; omega⟩
    · exact hRk _ _
  have hdp : R32 (if 0 ≤ adB A n n ∧ adB A n n < n then A.1 (7 + 2 * (adB A n n).toNat) 11 + 1 else 0) := by
    split
    · rename_i hh
      have hlt : A.1 (7 + 2 * (adB A n n).toNat) 11 < 5 := by
        unfold adB at hh ⊢
        split at hh
        · rename_i h9
          rw [if_pos h9]
          exact h9.2
        · omega
      have := (hRk (7 + 2 * (adB A n n).toNat) 11).1
      exact ⟨by omega, by omega⟩
    · exact ⟨by decide, by decide⟩
  have h51 : R32 (A.1 5 1 + 1) := ⟨by have := ha1.1; omega, by omega⟩
  have k1 := ((hRk.sw (7 + 2 * n) 10 hb).sw (7 + 2 * n) 12 hst).sw (7 + 2 * n) 11 hdp
  have e5b : (sw (sw (sw A (7 + 2 * n) 10 (adB A n n)) (7 + 2 * n) 12 (stF A n n (adB A n n))) (7 + 2 * n) 11 (if 0 ≤ adB A n n ∧ adB A n n < n then A.1 (7 + 2 * (adB A n n).toNat) 11 + 1 else 0)).1 5 1 = A.1 5 1 := by
    rw [rd_n (by omega), rd_n (by omega), rd_n (by omega)]
  exact (((k1.sw 5 1 h51)).sw (73 + 3 * tr.toNat) 4 ⟨by decide, by decide⟩).sw 0 5 ⟨by decide, by decide⟩

theorem rndG_r {u : St} {tr : Int} (hb : 0 ≤ u.1 89 23 ∧ u.1 89 23 ≤ 10) : R32 (rndG u tr) := by
  unfold rndG
  split
  · exact ⟨by omega, by omega⟩
  · exact ⟨by decide, by decide⟩
theorem dmF_RG {v : St} {n : Nat} {dr tr ca gh rd bs T : Int} (h : RG v) (hn : n < 30) (h1 : R32 dr) (h2 : R32 tr) (h3 : R32 ca) (h4 : R32 gh) (h5 : R32 rd) (h6 : R32 bs) (hT : R32 T) : RG (dmF v n dr tr ca gh rd bs T) := by
  unfold dmF dmA
  have k0 := h.sw 89 0 R32_0
  have k1 := (k0.sw 98 n (k0 89 30)).sw 99 n hT
  exact ((((((((cpM_RG k1).sw 101 n h1).sw 102 n h2).sw 103 n h3).sw 104 n h4).sw 105 n h5).sw 106 n h6).sw 89 11 ⟨by omega, by omega⟩).sw 89 9 ⟨by decide, by decide⟩
theorem sum_ge {f : Nat → Int} : ∀ n : Nat, (∀ l, l < n → 1 ≤ f l) → (n : Int) ≤ sumF f n := by
  intro n
  induction n with
  | zero => intro _; exact Int.le_refl 0
  | succ n ih =>
    intro h
    have h1 := ih (fun l hl => h l (by omega))
    have h2 := h n (by omega)
    rw [sumF]
    omega
set_option maxHeartbeats 4000000 in
theorem q_drive {σ u : St} {n ty R D : Nat} (dr tr ca gh : Int) {z : Int} (h : JJ σ n ty R D) (hU : JU σ n) (hdr : R32 dr) (htr : R32 tr) (hca : R32 ca) (hgh : R32 gh) (hz : (z = 0 ∧ ∃ v u1, (((0 ≤ dr ∧ dr < 6) ∧ (0 ≤ tr ∧ tr < σ.1 0 1) ∧ 0 ≤ ca ∧ ca < σ.1 0 3) ∧ (gh = -1 ∨ ((0 ≤ gh ∧ gh < σ.1 5 1) ∧ σ.1 (7 + 2 * gh.toNat) 4 = tr ∧ ¬ σ.1 (7 + 2 * gh.toNat) 9 = 0)) ∧ canD σ tr.toNat ca.toNat ty ∧ n < 30 ∧ v = (n : Int) ∧ ∃ v, FlR σ tr.toNat ca.toNat (σ.1 3) ty v ∧ u1 = drvF v n dr tr ca gh) ∧ u = (u1.1, v, u1.2.2)) ∨ (z = 1 ∧ (¬ ((0 ≤ dr ∧ dr < 6) ∧ (0 ≤ tr ∧ tr < σ.1 0 1) ∧ 0 ≤ ca ∧ ca < σ.1 0 3)) ∧ FrR σ u) ∨ (z = 2 ∧ (((0 ≤ dr ∧ dr < 6) ∧ (0 ≤ tr ∧ tr < σ.1 0 1) ∧ 0 ≤ ca ∧ ca < σ.1 0 3) ∧ ¬ (gh = -1 ∨ ((0 ≤ gh ∧ gh < σ.1 5 1) ∧ σ.1 (7 + 2 * gh.toNat) 4 = tr ∧ ¬ σ.1 (7 + 2 * gh.toNat) 9 = 0))) ∧ FrR σ u) ∨ (z = 3 ∧ (((0 ≤ dr ∧ dr < 6) ∧ (0 ≤ tr ∧ tr < σ.1 0 1) ∧ 0 ≤ ca ∧ ca < σ.1 0 3) ∧ (gh = -1 ∨ ((0 ≤ gh ∧ gh < σ.1 5 1) ∧ σ.1 (7 + 2 * gh.toNat) 4 = tr ∧ ¬ σ.1 (7 + 2 * gh.toNat) 9 = 0)) ∧ ¬ canD σ tr.toNat ca.toNat ty) ∧ FrR σ u) ∨ (z = 4 ∧ (((0 ≤ dr ∧ dr < 6) ∧ (0 ≤ tr ∧ tr < σ.1 0 1) ∧ 0 ≤ ca ∧ ca < σ.1 0 3) ∧ (gh = -1 ∨ ((0 ≤ gh ∧ gh < σ.1 5 1) ∧ σ.1 (7 + 2 * gh.toNat) 4 = tr ∧ ¬ σ.1 (7 + 2 * gh.toNat) 9 = 0)) ∧ canD σ tr.toNat ca.toNat ty ∧ ¬ n < 30) ∧ FrR σ u)) : MQr σ u ∧ ∀ (b9 : Int) (y9 : St), ((((0 ≤ dr ∧ dr < 6) ∧ (0 ≤ tr ∧ tr < u.1 89 1) ∧ 0 ≤ ca ∧ ca < u.1 89 5) ∧ ghM u gh tr ∧ canM u tr.toNat ca.toNat ty ∧ n < 30 ∧ b9 = (n : Int) ∧ ∃ v, MrP u tr.toNat ca.toNat (u.1 96) ty v ∧ y9 = dmF v n dr tr ca gh (rndG u tr) (bsM (dpR σ) gh) (tmM u tr.toNat (rideM u tr.toNat ca.toNat (u.1 96) ty))) ∨ (¬ ((0 ≤ dr ∧ dr < 6) ∧ (0 ≤ tr ∧ tr < u.1 89 1) ∧ 0 ≤ ca ∧ ca < u.1 89 5) ∧ y9.1 89 0 = 1 ∧ FrM u y9) ∨ (((0 ≤ dr ∧ dr < 6) ∧ (0 ≤ tr ∧ tr < u.1 89 1) ∧ 0 ≤ ca ∧ ca < u.1 89 5) ∧ ¬ ghM u gh tr ∧ y9.1 89 0 = 2 ∧ FrM u y9) ∨ (((0 ≤ dr ∧ dr < 6) ∧ (0 ≤ tr ∧ tr < u.1 89 1) ∧ 0 ≤ ca ∧ ca < u.1 89 5) ∧ ghM u gh tr ∧ ¬ canM u tr.toNat ca.toNat ty ∧ y9.1 89 0 = 3 ∧ FrM u y9) ∨ (((0 ≤ dr ∧ dr < 6) ∧ (0 ≤ tr ∧ tr < u.1 89 1) ∧ 0 ≤ ca ∧ ca < u.1 89 5) ∧ ghM u gh tr ∧ canM u tr.toNat ca.toNat ty ∧ ¬ n < 30 ∧ y9.1 89 0 = 4 ∧ FrM u y9)) → y9.1 89 0 = z ∧ (z = 0 → y9.2.1 = b9) ∧ Nx y9 := by
  have hc := h.2.1
  have hG := h.1
  unfold JC at hc
  have hgg : (gh = -1 ∨ ((0 ≤ gh ∧ gh < σ.1 5 1) ∧ σ.1 (7 + 2 * gh.toNat) 4 = tr ∧ ¬ σ.1 (7 + 2 * gh.toNat) 9 = 0)) ↔ ghM σ gh tr := by
    unfold ghM
    by_cases hgr : 0 ≤ gh ∧ gh < (n : Int)
    · have e := (h.je (a := gh) hgr).1
      have m := (h.je (a := gh) hgr).2.1.2.2.2.2.2
      unfold JE at e
      omega
    · omega
  rcases hz with ⟨hz0, v, u1, ⟨c1, c2, c3, c4, hv, v1, hfl, hu1⟩, hu⟩ | ⟨hz0, c1, hF⟩ | ⟨hz0, ⟨c1, c2⟩, hF⟩ | ⟨hz0, ⟨c1, c2, c3⟩, hF⟩ | ⟨hz0, ⟨c1, c2, c3, c4⟩, hF⟩
  · have ht : tr.toNat < 4 := by omega
    have hfr : FrR σ v1 := hfl.1
    have hb1 := h.b1
    have e51 : v1.1 5 1 = (n : Int) := by rw [hfr.1 5 (by decide)]; exact hb1
    have hrow := drv_rows (v := v1) (n := n) (dr := dr) (tr := tr) (ca := ca) (gh := gh) c4 ht e51
    have hn30 := h.n30
    have hG2 : RG (drvF v1 n dr tr ca gh) := drvF_RG hfr.2.2 hdr htr hca hgh (by omega)
    have hq : ∀ q, 89 ≤ q → (drvF v1 n dr tr ca gh).1 q = σ.1 q := fun q h1 => by
      rw [hrow.1 q (by omega) (by omega) (by omega) (by omega) (by omega), hfr.1 q (by omega)]
    have f : MQr σ u := by rw [hu, hu1]; exact ⟨fun q h1 _ => hq q h1, hG2⟩
    have hv2 : u.2.1 = v := by rw [hu]
    have hy1 : u.1 = (drvF v1 n dr tr ca gh).1 := by rw [hu, hu1]
    refine ⟨f, fun b9 y9 hy => ?_⟩
    have hcc := (h.can (t := tr.toNat) (c := ca.toNat) (by omega) (by omega)).2
    rw [f.1 89 (by decide) (by decide)] at hy
    rw [show ghM u gh tr = ghM σ gh tr by unfold ghM; rw [f.1 89 (by decide) (by decide), f.1 102 (by decide) (by decide), f.1 107 (by decide) (by decide)]] at hy
    rw [canM_q f, ← hgg] at hy
    rcases hy with ⟨d1, d2, d3, d4, hb, v2, hm, hy⟩ | ⟨d1, hy0, fm⟩ | ⟨d1, d2, hy0, fm⟩ | ⟨d1, d2, d3, hy0, fm⟩ | ⟨d1, d2, d3, d4, hy0, fm⟩
    · subst hz0
      have hcM := hcc.mp c3
      have hgM := hgg.mp c2
      have hD := h.drp (T2 := 0) c4 ⟨by omega, by omega⟩ ⟨by omega, by omega⟩ hgM hcM hfl hy1 hm
      rw [← hy] at hD
      have hG9 : RG y9 := by
        rw [hy]
        refine dmF_RG hm.1.2.2.2 (by omega) hdr htr hca hgh (rndG_r (h.f23b f)) (by unfold bsM; split; exact ⟨by decide, by decide⟩; exact hgh) ?_
        rw [tmM_q f, (f.ride _ _).1]
        have hb9 := tm_b (inp := u.1 96) h.2.2.1.1 h.2.2.1.2 ht (show ca.toNat < 4 by omega) h.ty60 (h.PM tr.toNat ht hcM.1) (by rw [f.1 96 (by decide) (by decide)]; exact hcM.2)
        exact ⟨by omega, by omega⟩
      refine ⟨?_, fun _ => ?_, ?_⟩
      · rw [hy]
        unfold dmF
        rw [rd_k (by decide), rd_k (by decide), rd_n (by decide), rd_n (by decide), rd_n (by decide), rd_n (by decide), rd_n (by decide), rd_n (by decide), cpM_n (by decide)]
        unfold dmA
        rw [rd_n (by decide), rd_n (by decide)]
        exact sw_e0
      · rw [hy]
        show v2.2.1 = b9
        rw [hm.1.2.2.1, hv2, hv, hb]
      · obtain ⟨k1, k2⟩ := h.p_drive hU c4 c1.1 ⟨by omega, by omega⟩ ⟨by omega, by omega⟩ hgM hcM hG9 hD
        exact ⟨n + 1, 0, R, D, k1, k2⟩
    · exfalso; omega
    · exact absurd c2 d2
    · exact absurd (hcc.mp c3) d3
    · exact absurd c4 d4
  · have f : MQr σ u := hF.mq
    have fe : EqS σ u := FrR.eqS hF
    refine ⟨f, fun b9 y9 hy => ?_⟩
    rw [f.1 89 (by decide) (by decide)] at hy
    rw [show ghM u gh tr = ghM σ gh tr by unfold ghM; rw [f.1 89 (by decide) (by decide), f.1 102 (by decide) (by decide), f.1 107 (by decide) (by decide)]] at hy
    rw [canM_q f, ← hgg] at hy
    rcases hy with ⟨d1, d2, d3, d4, hb, v2, hm, hy⟩ | ⟨d1, hy0, fm⟩ | ⟨d1, d2, hy0, fm⟩ | ⟨d1, d2, d3, hy0, fm⟩ | ⟨d1, d2, d3, d4, hy0, fm⟩
    · skip
      exfalso; omega
    · skip
      subst hz0
      exact ⟨hy0, fun q => absurd q (by decide), Nx.frM h hU fe fm⟩
    · skip
      exfalso; omega
    · skip
      exfalso; omega
    · skip
      exfalso; omega
  · have f : MQr σ u := hF.mq
    have fe : EqS σ u := FrR.eqS hF
    refine ⟨f, fun b9 y9 hy => ?_⟩
    rw [f.1 89 (by decide) (by decide)] at hy
    rw [show ghM u gh tr = ghM σ gh tr by unfold ghM; rw [f.1 89 (by decide) (by decide), f.1 102 (by decide) (by decide), f.1 107 (by decide) (by decide)]] at hy
    rw [canM_q f, ← hgg] at hy
    rcases hy with ⟨d1, d2, d3, d4, hb, v2, hm, hy⟩ | ⟨d1, hy0, fm⟩ | ⟨d1, d2, hy0, fm⟩ | ⟨d1, d2, d3, hy0, fm⟩ | ⟨d1, d2, d3, d4, hy0, fm⟩
    · skip
      exact absurd d2 c2
    · skip
      exfalso; omega
    · skip
      subst hz0
      exact ⟨hy0, fun q => absurd q (by decide), Nx.frM h hU fe fm⟩
    · skip
      exact absurd d2 c2
    · skip
      exact absurd d2 c2
  · have f : MQr σ u := hF.mq
    have fe : EqS σ u := FrR.eqS hF
    refine ⟨f, fun b9 y9 hy => ?_⟩
    rw [f.1 89 (by decide) (by decide)] at hy
    rw [show ghM u gh tr = ghM σ gh tr by unfold ghM; rw [f.1 89 (by decide) (by decide), f.1 102 (by decide) (by decide), f.1 107 (by decide) (by decide)]] at hy
    rw [canM_q f, ← hgg] at hy
    rcases hy with ⟨d1, d2, d3, d4, hb, v2, hm, hy⟩ | ⟨d1, hy0, fm⟩ | ⟨d1, d2, hy0, fm⟩ | ⟨d1, d2, d3, hy0, fm⟩ | ⟨d1, d2, d3, d4, hy0, fm⟩
    · skip
      exact absurd ((h.can (t := tr.toNat) (c := ca.toNat) (by omega) (by omega)).2.mpr d3) c3
    · skip
      exfalso; omega
    · skip
      exact absurd c2 d2
    · skip
      subst hz0
      exact ⟨hy0, fun q => absurd q (by decide), Nx.frM h hU fe fm⟩
    · skip
      exact absurd ((h.can (t := tr.toNat) (c := ca.toNat) (by omega) (by omega)).2.mpr d3) c3
  · have f : MQr σ u := hF.mq
    have fe : EqS σ u := FrR.eqS hF
    refine ⟨f, fun b9 y9 hy => ?_⟩
    rw [f.1 89 (by decide) (by decide)] at hy
    rw [show ghM u gh tr = ghM σ gh tr by unfold ghM; rw [f.1 89 (by decide) (by decide), f.1 102 (by decide) (by decide), f.1 107 (by decide) (by decide)]] at hy
    rw [canM_q f, ← hgg] at hy
    rcases hy with ⟨d1, d2, d3, d4, hb, v2, hm, hy⟩ | ⟨d1, hy0, fm⟩ | ⟨d1, d2, hy0, fm⟩ | ⟨d1, d2, d3, hy0, fm⟩ | ⟨d1, d2, d3, d4, hy0, fm⟩
    · skip
      exact absurd d4 c4
    · skip
      exfalso; omega
    · skip
      exact absurd c2 d2
    · skip
      exact absurd ((h.can (t := tr.toNat) (c := ca.toNat) (by omega) (by omega)).2.mp c3) d3
    · skip
      subst hz0
      exact ⟨hy0, fun q => absurd q (by decide), Nx.frM h hU fe fm⟩
set_option maxHeartbeats 4000000 in
theorem q_shareStored {σ u : St} {n ty R D : Nat} {z : Int} (h : JJ σ n ty R D) (hU : JU σ n) (hz : (z = 0 ∧ ∃ v u1, (¬ sumF (fun l => σ.1 (7 + 2 * l) 1) n = 0 ∧ v = FP.fdiv (FP.i2f (iN (sumF (fun l => σ.1 (7 + 2 * l) 12) n))) (FP.i2f (iN (sumF (fun l => σ.1 (7 + 2 * l) 1) n))) ∧ u1 = σ) ∧ u = (u1.1, u1.2.1, FP.f2d v) ∧ fpX FP.Core.b64 (FP.f2d v).toNat) ∨ (z = 1 ∧ (sumF (fun l => σ.1 (7 + 2 * l) 1) n = 0 ∧ u = σ))) : MQr σ u ∧ ∀ (b9 : UInt32) (y9 : St), ((¬ n = 0 ∧ b9 = FP.fdiv (FP.i2f (iN (sumF (prtM u) n))) (FP.i2f (iN (sumF (u.1 98) n))) ∧ y9 = sw u 89 0 0) ∨ (n = 0 ∧ y9 = sw u 89 0 1)) → y9.1 89 0 = z ∧ (z = 0 → y9.2.2 = FP.f2d b9 ∧ fpX FP.Core.b64 (FP.f2d b9).toNat) ∧ Nx y9 := by
  have hc := h.2.1
  have hG := h.1
  unfold JC at hc
  rcases hz with ⟨hz0, v, u1, ⟨c1, hv, hu1⟩, hu, hX⟩ | ⟨hz0, c1, hu⟩
  · have hu1 := hu1.symm
    subst hu1
    subst hu
    refine ⟨MQr.rf hG _, fun b9 y9 hy => ?_⟩
    dsimp only at hy
    simp only [prtM_p, mtM_p] at hy
    skip
    rcases hy with ⟨d1, hb, hy⟩ | ⟨d1, hy⟩
    · subst hy
      subst hz0
      have hvb : v = b9 := by
        rw [hv, hb, h.sumP, h.sumT]
      subst hvb
      exact ⟨sw_e0, fun _ => ⟨rfl, hX⟩, Nx.code h hU _ R32_0⟩
    · exfalso
      exact absurd (by rw [d1]; rfl) c1
  · have hu := hu.symm
    subst hu
    refine ⟨MQr.rf hG σ.2, fun b9 y9 hy => ?_⟩
    skip
    rcases hy with ⟨d1, hb, hy⟩ | ⟨d1, hy⟩
    · exfalso
      have h1 := sum_ge (f := fun l => σ.1 (7 + 2 * l) 1) n (fun l hl => by
        have e := (h.2.2.2.2.2.2.2 l hl).1.1
        have b := (h.2.2.2.2.2.2.2 l hl).2.2.1.1
        show 1 ≤ σ.1 (7 + 2 * l) 1
        omega)
      omega
    · subst hy
      subst hz0
      exact ⟨sw_e0, fun q => absurd q (by decide), Nx.code h hU σ.2 ⟨by decide, by decide⟩⟩
set_option maxHeartbeats 4000000 in
theorem q_meanTime {σ u : St} {n ty R D : Nat} {z : Int} (h : JJ σ n ty R D) (hU : JU σ n) (hz : (z = 0 ∧ ∃ v u1, (¬ sumF (fun l => if σ.1 (7 + 2 * l) 9 = 0 then 0 else 1) n = 0 ∧ v = FP.ddiv (FP.i2d (iN (mtF σ n))) (FP.i2d (iN (sumF (fun l => if σ.1 (7 + 2 * l) 9 = 0 then 0 else 1) n))) ∧ u1 = σ) ∧ u = (u1.1, u1.2.1, v) ∧ fpX FP.Core.b64 v.toNat) ∨ (z = 1 ∧ (sumF (fun l => if σ.1 (7 + 2 * l) 9 = 0 then 0 else 1) n = 0 ∧ u = σ))) : MQr σ u ∧ ∀ (b9 : UInt64) (y9 : St), ((¬ sumF (fun l => if u.1 107 l = 0 then 1 else 0) n = 0 ∧ b9 = FP.ddiv (FP.i2d (iN (mtM u n))) (FP.i2d (iN (sumF (fun l => if u.1 107 l = 0 then 1 else 0) n))) ∧ y9 = sw u 89 0 0) ∨ (sumF (fun l => if u.1 107 l = 0 then 1 else 0) n = 0 ∧ y9 = sw u 89 0 1)) → y9.1 89 0 = z ∧ (z = 0 → y9.2.2 = b9 ∧ fpX FP.Core.b64 b9.toNat) ∧ Nx y9 := by
  have hc := h.2.1
  have hG := h.1
  unfold JC at hc
  rcases hz with ⟨hz0, v, u1, ⟨c1, hv, hu1⟩, hu, hX⟩ | ⟨hz0, c1, hu⟩
  · have hu1 := hu1.symm
    subst hu1
    subst hu
    refine ⟨MQr.rf hG _, fun b9 y9 hy => ?_⟩
    dsimp only at hy
    simp only [prtM_p, mtM_p] at hy
    skip
    rcases hy with ⟨d1, hb, hy⟩ | ⟨d1, hy⟩
    · subst hy
      subst hz0
      have hvb : v = b9 := by
        rw [hv, hb, h.sumS, h.mean]
      subst hvb
      exact ⟨sw_e0, fun _ => ⟨rfl, hX⟩, Nx.code h hU _ R32_0⟩
    · exfalso
      exact absurd (h.sumS.trans d1) c1
  · have hu := hu.symm
    subst hu
    refine ⟨MQr.rf hG σ.2, fun b9 y9 hy => ?_⟩
    skip
    rcases hy with ⟨d1, hb, hy⟩ | ⟨d1, hy⟩
    · exfalso
      exact absurd (h.sumS.symm.trans c1) d1
    · subst hy
      subst hz0
      exact ⟨sw_e0, fun q => absurd q (by decide), Nx.code h hU σ.2 ⟨by decide, by decide⟩⟩
theorem q_wipe {σ u : St} {n ty R D : Nat} {z : Int} (h : JJ σ n ty R D) (hU : JU σ n) (hz : z = σ.1 0 5 ∧ u = sw σ 0 5 0) : MQr σ u ∧ ∀ (b9 : Int) (y9 : St), (b9 = u.1 89 9 ∧ y9 = sw (sw u 89 0 0) 89 9 0) → z = b9 ∧ Nx y9 := by
  have hc := h.2.1
  unfold JC at hc
  obtain ⟨hz0, hu⟩ := hz
  subst hu
  refine ⟨⟨fun q h1 _ => sw_ne (by omega), h.1.sw _ _ R32_0⟩, fun b9 y9 hy => ?_⟩
  obtain ⟨hb, hy⟩ := hy
  subst hy
  rw [rd_n (by decide)] at hb
  exact ⟨by omega, Nx.mk h.p_wipe hU.u_wipe rfl⟩
theorem q_laps {σ u : St} {n ty R D : Nat} {z : Int} (h : JJ σ n ty R D) (hU : JU σ n) (hz : z = σ.1 5 1 ∧ u = σ) : MQr σ u ∧ ∀ (b9 : Int) (y9 : St), (b9 = u.1 89 11 ∧ y9 = sw u 89 0 0) → z = b9 ∧ Nx y9 := by
  have hc := h.2.1
  unfold JC at hc
  obtain ⟨hz0, hu⟩ := hz
  have hu := hu.symm
  subst hu
  refine ⟨MQr.rf h.1 σ.2, fun b9 y9 hy => ?_⟩
  obtain ⟨hb, hy⟩ := hy
  subst hy
  exact ⟨by omega, Nx.code h hU σ.2 R32_0⟩
theorem q_stored {σ u : St} {n ty R D : Nat} {z : Int} (h : JJ σ n ty R D) (hU : JU σ n) (hz : z = sumF (fun l => σ.1 (7 + 2 * l) 12) n ∧ u = σ) : MQr σ u ∧ ∀ (b9 : Int) (y9 : St), (b9 = sumF (prtM u) n ∧ y9 = sw u 89 0 0) → z = b9 ∧ Nx y9 := by
  obtain ⟨hz0, hu⟩ := hz
  have hu := hu.symm
  subst hu
  refine ⟨MQr.rf h.1 σ.2, fun b9 y9 hy => ?_⟩
  obtain ⟨hb, hy⟩ := hy
  subst hy
  exact ⟨by rw [hz0, hb, h.sumP], Nx.code h hU σ.2 R32_0⟩
theorem q_checksum {σ u : St} {n ty R D : Nat} {z : Int} (h : JJ σ n ty R D) (hU : JU σ n) (hz : z = ckF σ n ∧ u = σ) : MQr σ u ∧ ∀ (b9 : Int) (y9 : St), (b9 = ckM u n ∧ y9 = sw u 89 0 0) → z = b9 ∧ Nx y9 := by
  obtain ⟨hz0, hu⟩ := hz
  have hu := hu.symm
  subst hu
  refine ⟨MQr.rf h.1 σ.2, fun b9 y9 hy => ?_⟩
  obtain ⟨hb, hy⟩ := hy
  subst hy
  exact ⟨by rw [hz0, hb, h.ck n (Nat.le_refl n)], Nx.code h hU σ.2 R32_0⟩
theorem q_isSound {σ u : St} {n ty R D : Nat} {z : Int} (h : JJ σ n ty R D) (hU : JU σ n) (hz : z = 1 ∧ FrR σ u) : MQr σ u ∧ ∀ (b9 : Int) (y9 : St), (b9 = 1 ∧ y9 = sw u 89 0 0) → z = b9 ∧ Nx y9 := by
  obtain ⟨hz0, hF⟩ := hz
  have fe := FrR.eqS hF
  refine ⟨hF.mq, fun b9 y9 hy => ?_⟩
  obtain ⟨hb, hy⟩ := hy
  subst hy
  exact ⟨by omega, Nx.eqS h hU (fe.tr (EqS.code fe.2 R32_0))⟩
