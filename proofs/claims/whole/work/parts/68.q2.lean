/-! ===== each call on both sides: what drives again, or reckons the season ===== -/
theorem inM_q {σ u : St} (f : MQr σ u) : inM u = inM σ := by
  funext l k
  unfold inM
  rw [f.1 97 (by decide) (by decide)]
set_option maxHeartbeats 4000000 in
theorem q_tryOut {σ u : St} {n ty R D : Nat} (a b : Int) {z : Int} (h : JJ σ n ty R D) (hU : JU σ n) (hz : (z = 0 ∧ ∃ v u1, (((0 ≤ a ∧ a < σ.1 0 1) ∧ 0 ≤ b ∧ b < σ.1 0 3) ∧ canD σ a.toNat b.toNat ty ∧ v = tmF (σ.1 (73 + 3 * a.toNat) 3) (rdF σ a.toNat b.toNat (σ.1 3) ty) ∧ FrR σ u1) ∧ u = (u1.1, v, u1.2.2)) ∨ (z = 1 ∧ (¬ ((0 ≤ a ∧ a < σ.1 0 1) ∧ 0 ≤ b ∧ b < σ.1 0 3)) ∧ FrR σ u) ∨ (z = 2 ∧ (((0 ≤ a ∧ a < σ.1 0 1) ∧ 0 ≤ b ∧ b < σ.1 0 3) ∧ ¬ canD σ a.toNat b.toNat ty) ∧ FrR σ u)) : MQr σ u ∧ ∀ (b9 : Int) (y9 : St), ((((0 ≤ a ∧ a < u.1 89 1) ∧ 0 ≤ b ∧ b < u.1 89 5) ∧ canM u a.toNat b.toNat ty ∧ b9 = tmM u a.toNat (rideM u a.toNat b.toNat (u.1 96) ty) ∧ y9.1 89 0 = 0 ∧ FrM u y9) ∨ (¬ ((0 ≤ a ∧ a < u.1 89 1) ∧ 0 ≤ b ∧ b < u.1 89 5) ∧ y9.1 89 0 = 1 ∧ FrM u y9) ∨ (((0 ≤ a ∧ a < u.1 89 1) ∧ 0 ≤ b ∧ b < u.1 89 5) ∧ ¬ canM u a.toNat b.toNat ty ∧ y9.1 89 0 = 2 ∧ FrM u y9)) → y9.1 89 0 = z ∧ (z = 0 → y9.2.1 = b9) ∧ Nx y9 := by
  have hc := h.2.1
  unfold JC at hc
  rcases hz with ⟨hz0, v, u1, ⟨c1, c2, hv, hF⟩, hu⟩ | ⟨hz0, c1, hF⟩ | ⟨hz0, ⟨c1, c2⟩, hF⟩
  · have f : MQr σ u := by rw [hu]; exact ⟨hF.mq.1, hF.2.2⟩
    have fe : EqS σ u := by rw [hu]; exact hF.eqx _
    have hv2 : u.2.1 = v := by rw [hu]
    refine ⟨f, fun b9 y9 hy => ?_⟩
    try rw [f.1 89 (by decide) (by decide)] at hy
    rcases hy with ⟨d1, d2, hb, hy0, fm⟩ | ⟨d1, hy0, fm⟩ | ⟨d1, d2, hy0, fm⟩
    · skip
      have hk := h.can (t := a.toNat) (c := b.toNat) (by omega) (by omega)
      rw [canM_q f] at d2
      subst hz0
      refine ⟨hy0, fun _ => ?_, Nx.frM h hU fe fm⟩
      rw [fm.2.2.1, hv2]
      rw [hv, hb, tmM_q f, (f.ride _ _).1, f.1 96 (by decide) (by decide), ← hk.1]
      exact h.tm (by omega) c2.2
    · skip
      exfalso; omega
    · skip
      have hk := h.can (t := a.toNat) (c := b.toNat) (by omega) (by omega)
      rw [canM_q f] at d2
      exfalso; exact absurd (hk.2.mp c2) d2
  · have f : MQr σ u := hF.mq
    have fe : EqS σ u := FrR.eqS hF
    refine ⟨f, fun b9 y9 hy => ?_⟩
    try rw [f.1 89 (by decide) (by decide)] at hy
    rcases hy with ⟨d1, d2, hb, hy0, fm⟩ | ⟨d1, hy0, fm⟩ | ⟨d1, d2, hy0, fm⟩
    · skip
      exfalso; omega
    · skip
      subst hz0
      exact ⟨hy0, fun q => absurd q (by decide), Nx.frM h hU fe fm⟩
    · skip
      exfalso; omega
  · have f : MQr σ u := hF.mq
    have fe : EqS σ u := FrR.eqS hF
    refine ⟨f, fun b9 y9 hy => ?_⟩
    try rw [f.1 89 (by decide) (by decide)] at hy
    rcases hy with ⟨d1, d2, hb, hy0, fm⟩ | ⟨d1, hy0, fm⟩ | ⟨d1, d2, hy0, fm⟩
    · skip
      have hk := h.can (t := a.toNat) (c := b.toNat) (by omega) (by omega)
      rw [canM_q f] at d2
      exfalso; exact absurd (hk.2.mpr d2) c2
    · skip
      exfalso; omega
    · skip
      have hk := h.can (t := a.toNat) (c := b.toNat) (by omega) (by omega)
      rw [canM_q f] at d2
      subst hz0
      exact ⟨hy0, fun q => absurd q (by decide), Nx.frM h hU fe fm⟩
set_option maxHeartbeats 4000000 in
theorem q_replay {σ u : St} {n ty R D : Nat} (a k w : Int) {z : Int} (h : JJ σ n ty R D) (hU : JU σ n) (hz : (z = 0 ∧ ∃ v u1, ((0 ≤ a ∧ a < σ.1 5 1) ∧ (0 ≤ k ∧ k ≤ σ.1 (7 + 2 * a.toNat) 1) ∧ v = (if w = 0 then (rdF σ (σ.1 (7 + 2 * a.toNat) 4).toNat (σ.1 (7 + 2 * a.toNat) 5).toNat (σ.1 (7 + 2 * a.toNat + 1)) k.toNat).1 else (rdF σ (σ.1 (7 + 2 * a.toNat) 4).toNat (σ.1 (7 + 2 * a.toNat) 5).toNat (σ.1 (7 + 2 * a.toNat + 1)) k.toNat).2.1) ∧ FrR σ u1) ∧ u = (u1.1, v, u1.2.2)) ∨ (z = 1 ∧ (¬ (0 ≤ a ∧ a < σ.1 5 1)) ∧ FrR σ u) ∨ (z = 2 ∧ ((0 ≤ a ∧ a < σ.1 5 1) ∧ ¬ (0 ≤ k ∧ k ≤ σ.1 (7 + 2 * a.toNat) 1)) ∧ FrR σ u)) : MQr σ u ∧ ∀ (b9 : Int) (y9 : St), (((0 ≤ a ∧ a < u.1 89 11) ∧ (0 ≤ k ∧ k ≤ u.1 98 a.toNat) ∧ b9 = (if w = 0 then (rideM u (u.1 102 a.toNat).toNat (u.1 103 a.toNat).toNat (inM u a.toNat) k.toNat).1 else (rideM u (u.1 102 a.toNat).toNat (u.1 103 a.toNat).toNat (inM u a.toNat) k.toNat).2.1) ∧ y9.1 89 0 = 0 ∧ FrM u y9) ∨ (¬ (0 ≤ a ∧ a < u.1 89 11) ∧ y9.1 89 0 = 1 ∧ FrM u y9) ∨ ((0 ≤ a ∧ a < u.1 89 11) ∧ ¬ (0 ≤ k ∧ k ≤ u.1 98 a.toNat) ∧ y9.1 89 0 = 2 ∧ FrM u y9)) → y9.1 89 0 = z ∧ (z = 0 → y9.2.1 = b9) ∧ Nx y9 := by
  have hc := h.2.1
  unfold JC at hc
  rcases hz with ⟨hz0, v, u1, ⟨c1, c2, hv, hF⟩, hu⟩ | ⟨hz0, c1, hF⟩ | ⟨hz0, ⟨c1, c2⟩, hF⟩
  · have f : MQr σ u := by rw [hu]; exact ⟨hF.mq.1, hF.2.2⟩
    have fe : EqS σ u := by rw [hu]; exact hF.eqx _
    have hv2 : u.2.1 = v := by rw [hu]
    refine ⟨f, fun b9 y9 hy => ?_⟩
    try rw [f.1 89 (by decide) (by decide)] at hy
    rcases hy with ⟨d1, d2, hb, hy0, fm⟩ | ⟨d1, hy0, fm⟩ | ⟨d1, d2, hy0, fm⟩
    · skip
      have e := (h.je (a := a) (by omega)).1.1
      rw [f.1 98 (by decide) (by decide)] at d2
      subst hz0
      refine ⟨hy0, fun _ => ?_, Nx.frM h hU fe fm⟩
      rw [fm.2.2.1, hv2]
      rw [hv, hb, f.1 102 (by decide) (by decide), f.1 103 (by decide) (by decide), inM_q f, (f.ride _ _).1, h.lapride (l := a.toNat) (by omega) k.toNat (by omega)]
    · skip
      exfalso; omega
    · skip
      have e := (h.je (a := a) (by omega)).1.1
      rw [f.1 98 (by decide) (by decide)] at d2
      exfalso; omega
  · have f : MQr σ u := hF.mq
    have fe : EqS σ u := FrR.eqS hF
    refine ⟨f, fun b9 y9 hy => ?_⟩
    try rw [f.1 89 (by decide) (by decide)] at hy
    rcases hy with ⟨d1, d2, hb, hy0, fm⟩ | ⟨d1, hy0, fm⟩ | ⟨d1, d2, hy0, fm⟩
    · skip
      exfalso; omega
    · skip
      subst hz0
      exact ⟨hy0, fun q => absurd q (by decide), Nx.frM h hU fe fm⟩
    · skip
      exfalso; omega
  · have f : MQr σ u := hF.mq
    have fe : EqS σ u := FrR.eqS hF
    refine ⟨f, fun b9 y9 hy => ?_⟩
    try rw [f.1 89 (by decide) (by decide)] at hy
    rcases hy with ⟨d1, d2, hb, hy0, fm⟩ | ⟨d1, hy0, fm⟩ | ⟨d1, d2, hy0, fm⟩
    · skip
      have e := (h.je (a := a) (by omega)).1.1
      rw [f.1 98 (by decide) (by decide)] at d2
      exfalso; omega
    · skip
      exfalso; omega
    · skip
      have e := (h.je (a := a) (by omega)).1.1
      rw [f.1 98 (by decide) (by decide)] at d2
      subst hz0
      exact ⟨hy0, fun q => absurd q (by decide), Nx.frM h hU fe fm⟩
set_option maxHeartbeats 4000000 in
theorem q_lapIn {σ u : St} {n ty R D : Nat} (r d : Int) {z : Int} (h : JJ σ n ty R D) (hU : JU σ n) (hz : (z = 0 ∧ ∃ v u1, (((0 ≤ r ∧ r < σ.1 67 1) ∧ 0 ≤ d ∧ d < 6) ∧ ¬ lapF σ n r d.toNat n = -1 ∧ v = lapF σ n r d.toNat n ∧ FrS σ u1) ∧ u = (u1.1, v, u1.2.2)) ∨ (z = 1 ∧ (¬ ((0 ≤ r ∧ r < σ.1 67 1) ∧ 0 ≤ d ∧ d < 6)) ∧ FrS σ u) ∨ (z = 2 ∧ (((0 ≤ r ∧ r < σ.1 67 1) ∧ 0 ≤ d ∧ d < 6) ∧ lapF σ n r d.toNat n = -1) ∧ FrS σ u)) : MQr σ u ∧ ∀ (b9 : Int) (y9 : St), ((((0 ≤ r ∧ r < u.1 89 23) ∧ 0 ≤ d ∧ d < 6) ∧ ¬ lapM u n r d = -1 ∧ b9 = lapM u n r d ∧ y9 = sw u 89 0 0) ∨ (¬ ((0 ≤ r ∧ r < u.1 89 23) ∧ 0 ≤ d ∧ d < 6) ∧ y9 = sw u 89 0 1) ∨ (((0 ≤ r ∧ r < u.1 89 23) ∧ 0 ≤ d ∧ d < 6) ∧ lapM u n r d = -1 ∧ y9 = sw u 89 0 2)) → y9.1 89 0 = z ∧ (z = 0 → y9.2.1 = b9) ∧ Nx y9 := by
  have hc := h.2.1
  unfold JC at hc
  rcases hz with ⟨hz0, v, u1, ⟨c1, c2, hv, hF⟩, hu⟩ | ⟨hz0, c1, hF⟩ | ⟨hz0, ⟨c1, c2⟩, hF⟩
  · have f : MQr σ u := by rw [hu]; exact ⟨hF.mq.1, hF.2.2⟩
    have fe : EqS σ u := by rw [hu]; exact hF.eqx _
    have hv2 : u.2.1 = v := by rw [hu]
    refine ⟨f, fun b9 y9 hy => ?_⟩
    try rw [f.1 89 (by decide) (by decide)] at hy
    rcases hy with ⟨d1, d2, hb, hy⟩ | ⟨d1, hy⟩ | ⟨d1, d2, hy⟩
    · skip
      have e : lapF σ n r d.toNat n = lapM σ n r d := by rw [h.lap, show ((d.toNat : Nat) : Int) = d by omega]
      rw [lapM_q f] at d2
      subst hz0
      refine ⟨by rw [hy]; exact sw_e0, fun _ => ?_, by rw [hy]; exact Nx.eqS h hU (fe.tr (EqS.code fe.2 ⟨by decide, by decide⟩))⟩
      rw [hy, show (sw u 89 0 0).2.1 = u.2.1 from rfl, hv2]
      rw [hv, hb, lapM_q f, e]
    · skip
      exfalso; omega
    · skip
      have e : lapF σ n r d.toNat n = lapM σ n r d := by rw [h.lap, show ((d.toNat : Nat) : Int) = d by omega]
      rw [lapM_q f] at d2
      exfalso; exact absurd (e.trans d2) c2
  · have f : MQr σ u := hF.mq
    have fe : EqS σ u := FrS.eqS hF
    refine ⟨f, fun b9 y9 hy => ?_⟩
    try rw [f.1 89 (by decide) (by decide)] at hy
    rcases hy with ⟨d1, d2, hb, hy⟩ | ⟨d1, hy⟩ | ⟨d1, d2, hy⟩
    · skip
      exfalso; omega
    · skip
      subst hz0
      exact ⟨by rw [hy]; exact sw_e0, fun q => absurd q (by decide), by rw [hy]; exact Nx.eqS h hU (fe.tr (EqS.code fe.2 ⟨by decide, by decide⟩))⟩
    · skip
      exfalso; omega
  · have f : MQr σ u := hF.mq
    have fe : EqS σ u := FrS.eqS hF
    refine ⟨f, fun b9 y9 hy => ?_⟩
    try rw [f.1 89 (by decide) (by decide)] at hy
    rcases hy with ⟨d1, d2, hb, hy⟩ | ⟨d1, hy⟩ | ⟨d1, d2, hy⟩
    · skip
      have e : lapF σ n r d.toNat n = lapM σ n r d := by rw [h.lap, show ((d.toNat : Nat) : Int) = d by omega]
      rw [lapM_q f] at d2
      exfalso; exact absurd (e.symm.trans c2) d2
    · skip
      exfalso; omega
    · skip
      have e : lapF σ n r d.toNat n = lapM σ n r d := by rw [h.lap, show ((d.toNat : Nat) : Int) = d by omega]
      rw [lapM_q f] at d2
      subst hz0
      exact ⟨by rw [hy]; exact sw_e0, fun q => absurd q (by decide), by rw [hy]; exact Nx.eqS h hU (fe.tr (EqS.code fe.2 ⟨by decide, by decide⟩))⟩
set_option maxHeartbeats 4000000 in
theorem q_placeIn {σ u : St} {n ty R D : Nat} (r d : Int) {z : Int} (h : JJ σ n ty R D) (hU : JU σ n) (hz : (z = 0 ∧ ∃ v u1, (((0 ≤ r ∧ r < σ.1 67 1) ∧ 0 ≤ d ∧ d < 6) ∧ ¬ lapF σ n r d.toNat n = -1 ∧ v = plF σ n r.toNat d.toNat + 1 ∧ FrS σ u1) ∧ u = (u1.1, v, u1.2.2)) ∨ (z = 1 ∧ (¬ ((0 ≤ r ∧ r < σ.1 67 1) ∧ 0 ≤ d ∧ d < 6)) ∧ FrS σ u) ∨ (z = 2 ∧ (((0 ≤ r ∧ r < σ.1 67 1) ∧ 0 ≤ d ∧ d < 6) ∧ lapF σ n r d.toNat n = -1) ∧ FrS σ u)) : MQr σ u ∧ ∀ (b9 : Int) (y9 : St), ((((0 ≤ r ∧ r < u.1 89 23) ∧ 0 ≤ d ∧ d < 6) ∧ ¬ lapM u n r d = -1 ∧ b9 = plcM u n r d ∧ y9 = sw u 89 0 0) ∨ (¬ ((0 ≤ r ∧ r < u.1 89 23) ∧ 0 ≤ d ∧ d < 6) ∧ y9 = sw u 89 0 1) ∨ (((0 ≤ r ∧ r < u.1 89 23) ∧ 0 ≤ d ∧ d < 6) ∧ lapM u n r d = -1 ∧ y9 = sw u 89 0 2)) → y9.1 89 0 = z ∧ (z = 0 → y9.2.1 = b9) ∧ Nx y9 := by
  have hc := h.2.1
  unfold JC at hc
  rcases hz with ⟨hz0, v, u1, ⟨c1, c2, hv, hF⟩, hu⟩ | ⟨hz0, c1, hF⟩ | ⟨hz0, ⟨c1, c2⟩, hF⟩
  · have f : MQr σ u := by rw [hu]; exact ⟨hF.mq.1, hF.2.2⟩
    have fe : EqS σ u := by rw [hu]; exact hF.eqx _
    have hv2 : u.2.1 = v := by rw [hu]
    refine ⟨f, fun b9 y9 hy => ?_⟩
    try rw [f.1 89 (by decide) (by decide)] at hy
    rcases hy with ⟨d1, d2, hb, hy⟩ | ⟨d1, hy⟩ | ⟨d1, d2, hy⟩
    · skip
      have e : lapF σ n r d.toNat n = lapM σ n r d := by rw [h.lap, show ((d.toNat : Nat) : Int) = d by omega]
      rw [lapM_q f] at d2
      subst hz0
      refine ⟨by rw [hy]; exact sw_e0, fun _ => ?_, by rw [hy]; exact Nx.eqS h hU (fe.tr (EqS.code fe.2 ⟨by decide, by decide⟩))⟩
      rw [hy, show (sw u 89 0 0).2.1 = u.2.1 from rfl, hv2]
      rw [hv, hb, plcM_q f]
      unfold plcM
      rw [if_neg d2, h.pl, show ((r.toNat : Nat) : Int) = r by omega, show ((d.toNat : Nat) : Int) = d by omega]
    · skip
      exfalso; omega
    · skip
      have e : lapF σ n r d.toNat n = lapM σ n r d := by rw [h.lap, show ((d.toNat : Nat) : Int) = d by omega]
      rw [lapM_q f] at d2
      exfalso; exact absurd (e.trans d2) c2
  · have f : MQr σ u := hF.mq
    have fe : EqS σ u := FrS.eqS hF
    refine ⟨f, fun b9 y9 hy => ?_⟩
    try rw [f.1 89 (by decide) (by decide)] at hy
    rcases hy with ⟨d1, d2, hb, hy⟩ | ⟨d1, hy⟩ | ⟨d1, d2, hy⟩
    · skip
      exfalso; omega
    · skip
      subst hz0
      exact ⟨by rw [hy]; exact sw_e0, fun q => absurd q (by decide), by rw [hy]; exact Nx.eqS h hU (fe.tr (EqS.code fe.2 ⟨by decide, by decide⟩))⟩
    · skip
      exfalso; omega
  · have f : MQr σ u := hF.mq
    have fe : EqS σ u := FrS.eqS hF
    refine ⟨f, fun b9 y9 hy => ?_⟩
    try rw [f.1 89 (by decide) (by decide)] at hy
    rcases hy with ⟨d1, d2, hb, hy⟩ | ⟨d1, hy⟩ | ⟨d1, d2, hy⟩
    · skip
      have e : lapF σ n r d.toNat n = lapM σ n r d := by rw [h.lap, show ((d.toNat : Nat) : Int) = d by omega]
      rw [lapM_q f] at d2
      exfalso; exact absurd (e.symm.trans c2) d2
    · skip
      exfalso; omega
    · skip
      have e : lapF σ n r d.toNat n = lapM σ n r d := by rw [h.lap, show ((d.toNat : Nat) : Int) = d by omega]
      rw [lapM_q f] at d2
      subst hz0
      exact ⟨by rw [hy]; exact sw_e0, fun q => absurd q (by decide), by rw [hy]; exact Nx.eqS h hU (fe.tr (EqS.code fe.2 ⟨by decide, by decide⟩))⟩
set_option maxHeartbeats 4000000 in
theorem q_points {σ u : St} {n ty R D : Nat} (d : Int) {z : Int} (h : JJ σ n ty R D) (hU : JU σ n) (hz : (z = 0 ∧ ∃ v u1, ((0 ≤ d ∧ d < 6) ∧ v = ptsF σ n R D d.toNat ∧ FrS σ u1) ∧ u = (u1.1, v, u1.2.2)) ∨ (z = 1 ∧ (¬ (0 ≤ d ∧ d < 6) ∧ FrS σ u))) : MQr σ u ∧ ∀ (b9 : Int) (y9 : St), (((0 ≤ d ∧ d < 6) ∧ b9 = ptsM u n R D d ∧ y9.1 89 0 = 0 ∧ FrM u y9) ∨ (¬ (0 ≤ d ∧ d < 6) ∧ y9.1 89 0 = 1 ∧ FrM u y9)) → y9.1 89 0 = z ∧ (z = 0 → y9.2.1 = b9) ∧ Nx y9 := by
  have hc := h.2.1
  unfold JC at hc
  rcases hz with ⟨hz0, v, u1, ⟨c1, hv, hF⟩, hu⟩ | ⟨hz0, c1, hF⟩
  · have f : MQr σ u := by rw [hu]; exact ⟨hF.mq.1, hF.2.2⟩
    have fe : EqS σ u := by rw [hu]; exact hF.eqx _
    have hv2 : u.2.1 = v := by rw [hu]
    refine ⟨f, fun b9 y9 hy => ?_⟩
    try rw [f.1 89 (by decide) (by decide)] at hy
    rcases hy with ⟨d1, hb, hy0, fm⟩ | ⟨d1, hy0, fm⟩
    · skip
      subst hz0
      refine ⟨hy0, fun _ => ?_, Nx.frM h hU fe fm⟩
      rw [fm.2.2.1, hv2]
      rw [hv, hb, ptsM_q f, h.pts (by omega), show ((d.toNat : Nat) : Int) = d by omega]
    · skip
      exfalso; omega
  · have f : MQr σ u := hF.mq
    have fe : EqS σ u := FrS.eqS hF
    refine ⟨f, fun b9 y9 hy => ?_⟩
    try rw [f.1 89 (by decide) (by decide)] at hy
    rcases hy with ⟨d1, hb, hy0, fm⟩ | ⟨d1, hy0, fm⟩
    · skip
      exfalso; omega
    · skip
      subst hz0
      exact ⟨hy0, fun q => absurd q (by decide), Nx.frM h hU fe fm⟩
set_option maxHeartbeats 4000000 in
theorem q_wins {σ u : St} {n ty R D : Nat} (d : Int) {z : Int} (h : JJ σ n ty R D) (hU : JU σ n) (hz : (z = 0 ∧ ∃ v u1, ((0 ≤ d ∧ d < 6) ∧ v = wonF σ n R d.toNat ∧ FrS σ u1) ∧ u = (u1.1, v, u1.2.2)) ∨ (z = 1 ∧ (¬ (0 ≤ d ∧ d < 6) ∧ FrS σ u))) : MQr σ u ∧ ∀ (b9 : Int) (y9 : St), (((0 ≤ d ∧ d < 6) ∧ b9 = wonM u n R d ∧ y9 = sw u 89 0 0) ∨ (¬ (0 ≤ d ∧ d < 6) ∧ y9 = sw u 89 0 1)) → y9.1 89 0 = z ∧ (z = 0 → y9.2.1 = b9) ∧ Nx y9 := by
  have hc := h.2.1
  unfold JC at hc
  rcases hz with ⟨hz0, v, u1, ⟨c1, hv, hF⟩, hu⟩ | ⟨hz0, c1, hF⟩
  · have f : MQr σ u := by rw [hu]; exact ⟨hF.mq.1, hF.2.2⟩
    have fe : EqS σ u := by rw [hu]; exact hF.eqx _
    have hv2 : u.2.1 = v := by rw [hu]
    refine ⟨f, fun b9 y9 hy => ?_⟩
    try rw [f.1 89 (by decide) (by decide)] at hy
    rcases hy with ⟨d1, hb, hy⟩ | ⟨d1, hy⟩
    · skip
      subst hz0
      refine ⟨by rw [hy]; exact sw_e0, fun _ => ?_, by rw [hy]; exact Nx.eqS h hU (fe.tr (EqS.code fe.2 ⟨by decide, by decide⟩))⟩
      rw [hy, show (sw u 89 0 0).2.1 = u.2.1 from rfl, hv2]
      rw [hv, hb, wonM_q f, h.won, show ((d.toNat : Nat) : Int) = d by omega]
    · skip
      exfalso; omega
  · have f : MQr σ u := hF.mq
    have fe : EqS σ u := FrS.eqS hF
    refine ⟨f, fun b9 y9 hy => ?_⟩
    try rw [f.1 89 (by decide) (by decide)] at hy
    rcases hy with ⟨d1, hb, hy⟩ | ⟨d1, hy⟩
    · skip
      exfalso; omega
    · skip
      subst hz0
      exact ⟨by rw [hy]; exact sw_e0, fun q => absurd q (by decide), by rw [hy]; exact Nx.eqS h hU (fe.tr (EqS.code fe.2 ⟨by decide, by decide⟩))⟩
set_option maxHeartbeats 4000000 in
theorem q_standing {σ u : St} {n ty R D : Nat} (d : Int) {z : Int} (h : JJ σ n ty R D) (hU : JU σ n) (hz : (z = 0 ∧ ∃ v u1, ((0 ≤ d ∧ d < 6) ∧ v = dbF (fun d => ptsF σ n R D d) (fun d => wonF σ n R d) d 6 ∧ FrS σ u1) ∧ u = (u1.1, v, u1.2.2)) ∨ (z = 1 ∧ (¬ (0 ≤ d ∧ d < 6) ∧ FrS σ u))) : MQr σ u ∧ ∀ (b9 : Int) (y9 : St), (((0 ≤ d ∧ d < 6) ∧ b9 = dbF (fun o => ptsM u n R D ((o : Nat) : Int)) (fun o => wonM u n R ((o : Nat) : Int)) d 6 ∧ y9.1 89 0 = 0 ∧ FrM u y9) ∨ (¬ (0 ≤ d ∧ d < 6) ∧ y9.1 89 0 = 1 ∧ FrM u y9)) → y9.1 89 0 = z ∧ (z = 0 → y9.2.1 = b9) ∧ Nx y9 := by
  have hc := h.2.1
  unfold JC at hc
  rcases hz with ⟨hz0, v, u1, ⟨c1, hv, hF⟩, hu⟩ | ⟨hz0, c1, hF⟩
  · have f : MQr σ u := by rw [hu]; exact ⟨hF.mq.1, hF.2.2⟩
    have fe : EqS σ u := by rw [hu]; exact hF.eqx _
    have hv2 : u.2.1 = v := by rw [hu]
    refine ⟨f, fun b9 y9 hy => ?_⟩
    try rw [f.1 89 (by decide) (by decide)] at hy
    rcases hy with ⟨d1, hb, hy0, fm⟩ | ⟨d1, hy0, fm⟩
    · skip
      subst hz0
      refine ⟨hy0, fun _ => ?_, Nx.frM h hU fe fm⟩
      rw [fm.2.2.1, hv2]
      rw [hv, hb, h.db, show (fun o : Nat => ptsM u n R D ((o : Nat) : Int)) = fun o : Nat => ptsM σ n R D ((o : Nat) : Int) from funext (fun o => ptsM_q f n R D _), show (fun o : Nat => wonM u n R ((o : Nat) : Int)) = fun o : Nat => wonM σ n R ((o : Nat) : Int) from funext (fun o => wonM_q f n R _)]
    · skip
      exfalso; omega
  · have f : MQr σ u := hF.mq
    have fe : EqS σ u := FrS.eqS hF
    refine ⟨f, fun b9 y9 hy => ?_⟩
    try rw [f.1 89 (by decide) (by decide)] at hy
    rcases hy with ⟨d1, hb, hy0, fm⟩ | ⟨d1, hy0, fm⟩
    · skip
      exfalso; omega
    · skip
      subst hz0
      exact ⟨hy0, fun q => absurd q (by decide), Nx.frM h hU fe fm⟩
