/-! ===== each call on both sides: what only reads ===== -/
theorem lenM_p {σ : St} {x : Int × UInt64} : lenM (σ.1, x) = lenM σ := rfl
theorem limM_p {σ : St} {x : Int × UInt64} : limM (σ.1, x) = limM σ := rfl
theorem cntM_p {σ : St} {x : Int × UInt64} : cntM (σ.1, x) = cntM σ := rfl
theorem inM_p {σ : St} {x : Int × UInt64} : inM (σ.1, x) = inM σ := rfl
theorem prtM_p {σ : St} {x : Int × UInt64} : prtM (σ.1, x) = prtM σ := rfl
theorem rideM_p {σ : St} {x : Int × UInt64} : rideM (σ.1, x) = rideM σ := rfl
theorem tmM_p {σ : St} {x : Int × UInt64} : tmM (σ.1, x) = tmM σ := rfl
theorem mtM_p {σ : St} {x : Int × UInt64} : mtM (σ.1, x) = mtM σ := rfl
theorem rstI_p {σ : St} {x : Int × UInt64} : rstI (σ.1, x) = rstI σ := by
  funext l on
  exact rstI_eq rfl
set_option maxHeartbeats 4000000 in
theorem q_lengthOf {σ u : St} {n ty R D : Nat} (a : Int) {z : Int} (h : JJ σ n ty R D) (hU : JU σ n) (hz : (z = 0 ∧ ∃ v u1, (0 ≤ a ∧ a < σ.1 0 1 ∧ v = σ.1 (73 + 3 * a.toNat) 3 ∧ u1 = σ) ∧ u = (u1.1, v, u1.2.2)) ∨ (z = 1 ∧ (¬ (0 ≤ a ∧ a < σ.1 0 1) ∧ u = σ))) : MQr σ u ∧ ∀ (b9 : Int) (y9 : St), (((0 ≤ a ∧ a < u.1 89 1) ∧ b9 = lenM u a.toNat ∧ y9 = sw u 89 0 0) ∨ (¬ (0 ≤ a ∧ a < u.1 89 1) ∧ y9 = sw u 89 0 1)) → y9.1 89 0 = z ∧ (z = 0 → y9.2.1 = b9) ∧ Nx y9 := by
  have hc := h.2.1
  unfold JC at hc
  rcases hz with ⟨hz0, v, u1, ⟨c1, c2, hv, hu1⟩, hu⟩ | ⟨hz0, c1, hu⟩
  · have hu1 := hu1.symm
    subst hu1
    subst hu
    refine ⟨MQr.rf h.1 _, fun b9 y9 hy => ?_⟩
    try dsimp only at hy
    try simp only [lenM_p, limM_p, cntM_p, inM_p, prtM_p, rstI_p] at hy
    rcases hy with ⟨d1, hb, hy⟩ | ⟨d1, hy⟩
    · skip
      subst hy
      subst hz0
      refine ⟨sw_e0, fun _ => ?_, Nx.code h hU _ R32_0⟩
      show v = b9
      rw [hv, hb]; exact (h.jt ⟨c1, c2⟩).2.1
    · skip
      exfalso; first | omega | (exact absurd c2 d2) | (exact absurd d2 c2)
  · have hu := hu.symm
    subst hu
    refine ⟨MQr.rf h.1 σ.2, fun b9 y9 hy => ?_⟩
    try dsimp only at hy
    try simp only [lenM_p, limM_p, cntM_p, inM_p, prtM_p, rstI_p] at hy
    rcases hy with ⟨d1, hb, hy⟩ | ⟨d1, hy⟩
    · skip
      exfalso; first | omega | (exact absurd c2 d2) | (exact absurd d2 c2)
    · skip
      subst hy
      subst hz0
      exact ⟨sw_e0, fun q => absurd q (by decide), Nx.code h hU σ.2 ⟨by decide, by decide⟩⟩
set_option maxHeartbeats 4000000 in
theorem q_limitAt {σ u : St} {n ty R D : Nat} (a p : Int) {z : Int} (h : JJ σ n ty R D) (hU : JU σ n) (hz : (z = 0 ∧ ∃ v u1, ((0 ≤ a ∧ a < σ.1 0 1) ∧ (0 ≤ p ∧ p < σ.1 (73 + 3 * a.toNat) 3) ∧ v = limG (σ.1 (73 + 3 * a.toNat + 1)) (σ.1 (73 + 3 * a.toNat + 2)) p 0 (σ.1 (73 + 3 * a.toNat) 2).toNat ∧ u1 = σ) ∧ u = (u1.1, v, u1.2.2)) ∨ (z = 1 ∧ (¬ (0 ≤ a ∧ a < σ.1 0 1)) ∧ u = σ) ∨ (z = 2 ∧ ((0 ≤ a ∧ a < σ.1 0 1) ∧ ¬ (0 ≤ p ∧ p < σ.1 (73 + 3 * a.toNat) 3)) ∧ u = σ)) : MQr σ u ∧ ∀ (b9 : Int) (y9 : St), (((0 ≤ a ∧ a < u.1 89 1) ∧ (0 ≤ p ∧ p < lenM u a.toNat) ∧ b9 = limM u a.toNat p ∧ y9 = sw u 89 0 0) ∨ (¬ (0 ≤ a ∧ a < u.1 89 1) ∧ y9 = sw u 89 0 1) ∨ ((0 ≤ a ∧ a < u.1 89 1) ∧ ¬ (0 ≤ p ∧ p < lenM u a.toNat) ∧ y9 = sw u 89 0 2)) → y9.1 89 0 = z ∧ (z = 0 → y9.2.1 = b9) ∧ Nx y9 := by
  have hc := h.2.1
  unfold JC at hc
  rcases hz with ⟨hz0, v, u1, ⟨c1, c2, hv, hu1⟩, hu⟩ | ⟨hz0, c1, hu⟩ | ⟨hz0, ⟨c1, c2⟩, hu⟩
  · have hu1 := hu1.symm
    subst hu1
    subst hu
    refine ⟨MQr.rf h.1 _, fun b9 y9 hy => ?_⟩
    try dsimp only at hy
    try simp only [lenM_p, limM_p, cntM_p, inM_p, prtM_p, rstI_p] at hy
    rcases hy with ⟨d1, d2, hb, hy⟩ | ⟨d1, hy⟩ | ⟨d1, d2, hy⟩
    · skip
      have t1 := (h.jt c1).2.1
      subst hy
      subst hz0
      refine ⟨sw_e0, fun _ => ?_, Nx.code h hU _ R32_0⟩
      show v = b9
      rw [hv, hb]
      obtain ⟨j1, j2, j3, j4⟩ := h.jt c1
      have hT := h.2.2.1.1.1 a.toNat (by omega)
      rw [j1]
      unfold limM
      exact limG_congr (K := (σ.1 90 a.toNat).toNat) (fun j hj => ⟨(j3 j hj).1, (j3 j hj).2.1⟩) _ 0 (by omega)
    · skip
      exfalso; first | omega | (exact absurd c2 d2) | (exact absurd d2 c2)
    · skip
      have t1 := (h.jt c1).2.1
      exfalso; first | omega | (exact absurd c2 d2) | (exact absurd d2 c2)
  · have hu := hu.symm
    subst hu
    refine ⟨MQr.rf h.1 σ.2, fun b9 y9 hy => ?_⟩
    try dsimp only at hy
    try simp only [lenM_p, limM_p, cntM_p, inM_p, prtM_p, rstI_p] at hy
    rcases hy with ⟨d1, d2, hb, hy⟩ | ⟨d1, hy⟩ | ⟨d1, d2, hy⟩
    · skip
      exfalso; first | omega | (exact absurd c2 d2) | (exact absurd d2 c2)
    · skip
      subst hy
      subst hz0
      exact ⟨sw_e0, fun q => absurd q (by decide), Nx.code h hU σ.2 ⟨by decide, by decide⟩⟩
    · skip
      exfalso; first | omega | (exact absurd c2 d2) | (exact absurd d2 c2)
  · have hu := hu.symm
    subst hu
    refine ⟨MQr.rf h.1 σ.2, fun b9 y9 hy => ?_⟩
    try dsimp only at hy
    try simp only [lenM_p, limM_p, cntM_p, inM_p, prtM_p, rstI_p] at hy
    rcases hy with ⟨d1, d2, hb, hy⟩ | ⟨d1, hy⟩ | ⟨d1, d2, hy⟩
    · skip
      have t1 := (h.jt c1).2.1
      exfalso; first | omega | (exact absurd c2 d2) | (exact absurd d2 c2)
    · skip
      exfalso; first | omega | (exact absurd c2 d2) | (exact absurd d2 c2)
    · skip
      subst hy
      subst hz0
      exact ⟨sw_e0, fun q => absurd q (by decide), Nx.code h hU σ.2 ⟨by decide, by decide⟩⟩
set_option maxHeartbeats 4000000 in
theorem q_time {σ u : St} {n ty R D : Nat} (a w : Int) {z : Int} (h : JJ σ n ty R D) (hU : JU σ n) (hz : (z = 0 ∧ ∃ v u1, (0 ≤ a ∧ a < σ.1 5 1 ∧ v = (if w = 0 then σ.1 (7 + 2 * a.toNat) 2 else cntC σ a.toNat) ∧ u1 = σ) ∧ u = (u1.1, v, u1.2.2)) ∨ (z = 1 ∧ (¬ (0 ≤ a ∧ a < σ.1 5 1) ∧ u = σ))) : MQr σ u ∧ ∀ (b9 : Int) (y9 : St), (((0 ≤ a ∧ a < u.1 89 11) ∧ b9 = (if w = 0 then u.1 99 a.toNat else cntM u a.toNat) ∧ y9 = sw u 89 0 0) ∨ (¬ (0 ≤ a ∧ a < u.1 89 11) ∧ y9 = sw u 89 0 1)) → y9.1 89 0 = z ∧ (z = 0 → y9.2.1 = b9) ∧ Nx y9 := by
  have hc := h.2.1
  unfold JC at hc
  rcases hz with ⟨hz0, v, u1, ⟨c1, c2, hv, hu1⟩, hu⟩ | ⟨hz0, c1, hu⟩
  · have hu1 := hu1.symm
    subst hu1
    subst hu
    refine ⟨MQr.rf h.1 _, fun b9 y9 hy => ?_⟩
    try dsimp only at hy
    try simp only [lenM_p, limM_p, cntM_p, inM_p, prtM_p, rstI_p] at hy
    rcases hy with ⟨d1, hb, hy⟩ | ⟨d1, hy⟩
    · skip
      subst hy
      subst hz0
      refine ⟨sw_e0, fun _ => ?_, Nx.code h hU _ R32_0⟩
      show v = b9
      have e := (h.je (a := a) (by omega)).1
      rw [hv, hb, h.cnt a.toNat (by omega), e.2.1]
    · skip
      exfalso; first | omega | (exact absurd c2 d2) | (exact absurd d2 c2)
  · have hu := hu.symm
    subst hu
    refine ⟨MQr.rf h.1 σ.2, fun b9 y9 hy => ?_⟩
    try dsimp only at hy
    try simp only [lenM_p, limM_p, cntM_p, inM_p, prtM_p, rstI_p] at hy
    rcases hy with ⟨d1, hb, hy⟩ | ⟨d1, hy⟩
    · skip
      exfalso; first | omega | (exact absurd c2 d2) | (exact absurd d2 c2)
    · skip
      subst hy
      subst hz0
      exact ⟨sw_e0, fun q => absurd q (by decide), Nx.code h hU σ.2 ⟨by decide, by decide⟩⟩
set_option maxHeartbeats 4000000 in
theorem q_ticks {σ u : St} {n ty R D : Nat} (a : Int) {z : Int} (h : JJ σ n ty R D) (hU : JU σ n) (hz : (z = 0 ∧ ∃ v u1, (0 ≤ a ∧ a < σ.1 5 1 ∧ v = σ.1 (7 + 2 * a.toNat) 1 ∧ u1 = σ) ∧ u = (u1.1, v, u1.2.2)) ∨ (z = 1 ∧ (¬ (0 ≤ a ∧ a < σ.1 5 1) ∧ u = σ))) : MQr σ u ∧ ∀ (b9 : Int) (y9 : St), (((0 ≤ a ∧ a < u.1 89 11) ∧ b9 = u.1 98 a.toNat ∧ y9 = sw u 89 0 0) ∨ (¬ (0 ≤ a ∧ a < u.1 89 11) ∧ y9 = sw u 89 0 1)) → y9.1 89 0 = z ∧ (z = 0 → y9.2.1 = b9) ∧ Nx y9 := by
  have hc := h.2.1
  unfold JC at hc
  rcases hz with ⟨hz0, v, u1, ⟨c1, c2, hv, hu1⟩, hu⟩ | ⟨hz0, c1, hu⟩
  · have hu1 := hu1.symm
    subst hu1
    subst hu
    refine ⟨MQr.rf h.1 _, fun b9 y9 hy => ?_⟩
    try dsimp only at hy
    try simp only [lenM_p, limM_p, cntM_p, inM_p, prtM_p, rstI_p] at hy
    rcases hy with ⟨d1, hb, hy⟩ | ⟨d1, hy⟩
    · skip
      subst hy
      subst hz0
      refine ⟨sw_e0, fun _ => ?_, Nx.code h hU _ R32_0⟩
      show v = b9
      rw [hv, hb]
      exact (h.je (a := a) (by omega)).1.1
    · skip
      exfalso; first | omega | (exact absurd c2 d2) | (exact absurd d2 c2)
  · have hu := hu.symm
    subst hu
    refine ⟨MQr.rf h.1 σ.2, fun b9 y9 hy => ?_⟩
    try dsimp only at hy
    try simp only [lenM_p, limM_p, cntM_p, inM_p, prtM_p, rstI_p] at hy
    rcases hy with ⟨d1, hb, hy⟩ | ⟨d1, hy⟩
    · skip
      exfalso; first | omega | (exact absurd c2 d2) | (exact absurd d2 c2)
    · skip
      subst hy
      subst hz0
      exact ⟨sw_e0, fun q => absurd q (by decide), Nx.code h hU σ.2 ⟨by decide, by decide⟩⟩
set_option maxHeartbeats 4000000 in
theorem q_inputAt {σ u : St} {n ty R D : Nat} (a k : Int) {z : Int} (h : JJ σ n ty R D) (hU : JU σ n) (hz : (z = 0 ∧ ∃ v u1, ((0 ≤ a ∧ a < σ.1 5 1) ∧ 0 ≤ k ∧ k < σ.1 (7 + 2 * a.toNat) 1 ∧ v = σ.1 (7 + 2 * a.toNat + 1) k.toNat ∧ u1 = σ) ∧ u = (u1.1, v, u1.2.2)) ∨ (z = 1 ∧ (¬ (0 ≤ a ∧ a < σ.1 5 1)) ∧ u = σ) ∨ (z = 2 ∧ ((0 ≤ a ∧ a < σ.1 5 1) ∧ ¬ (0 ≤ k ∧ k < σ.1 (7 + 2 * a.toNat) 1)) ∧ u = σ)) : MQr σ u ∧ ∀ (b9 : Int) (y9 : St), (((0 ≤ a ∧ a < u.1 89 11) ∧ (0 ≤ k ∧ k < u.1 98 a.toNat) ∧ b9 = inM u a.toNat k.toNat ∧ y9 = sw u 89 0 0) ∨ (¬ (0 ≤ a ∧ a < u.1 89 11) ∧ y9 = sw u 89 0 1) ∨ ((0 ≤ a ∧ a < u.1 89 11) ∧ ¬ (0 ≤ k ∧ k < u.1 98 a.toNat) ∧ y9 = sw u 89 0 2)) → y9.1 89 0 = z ∧ (z = 0 → y9.2.1 = b9) ∧ Nx y9 := by
  have hc := h.2.1
  unfold JC at hc
  rcases hz with ⟨hz0, v, u1, ⟨c1, c2, c3, hv, hu1⟩, hu⟩ | ⟨hz0, c1, hu⟩ | ⟨hz0, ⟨c1, c2⟩, hu⟩
  · have hu1 := hu1.symm
    subst hu1
    subst hu
    refine ⟨MQr.rf h.1 _, fun b9 y9 hy => ?_⟩
    try dsimp only at hy
    try simp only [lenM_p, limM_p, cntM_p, inM_p, prtM_p, rstI_p] at hy
    rcases hy with ⟨d1, d2, hb, hy⟩ | ⟨d1, hy⟩ | ⟨d1, d2, hy⟩
    · skip
      have e := (h.je (a := a) (by omega)).1.1
      subst hy
      subst hz0
      refine ⟨sw_e0, fun _ => ?_, Nx.code h hU _ R32_0⟩
      show v = b9
      rw [hv, hb]
      exact (h.2.2.2.2.2.2.2 a.toNat (by omega)).2.2.2.2.1 k.toNat (by omega)
    · skip
      exfalso; first | omega | (exact absurd c2 d2) | (exact absurd d2 c2)
    · skip
      have e := (h.je (a := a) (by omega)).1.1
      exfalso; first | omega | (exact absurd c2 d2) | (exact absurd d2 c2)
  · have hu := hu.symm
    subst hu
    refine ⟨MQr.rf h.1 σ.2, fun b9 y9 hy => ?_⟩
    try dsimp only at hy
    try simp only [lenM_p, limM_p, cntM_p, inM_p, prtM_p, rstI_p] at hy
    rcases hy with ⟨d1, d2, hb, hy⟩ | ⟨d1, hy⟩ | ⟨d1, d2, hy⟩
    · skip
      exfalso; first | omega | (exact absurd c2 d2) | (exact absurd d2 c2)
    · skip
      subst hy
      subst hz0
      exact ⟨sw_e0, fun q => absurd q (by decide), Nx.code h hU σ.2 ⟨by decide, by decide⟩⟩
    · skip
      exfalso; first | omega | (exact absurd c2 d2) | (exact absurd d2 c2)
  · have hu := hu.symm
    subst hu
    refine ⟨MQr.rf h.1 σ.2, fun b9 y9 hy => ?_⟩
    try dsimp only at hy
    try simp only [lenM_p, limM_p, cntM_p, inM_p, prtM_p, rstI_p] at hy
    rcases hy with ⟨d1, d2, hb, hy⟩ | ⟨d1, hy⟩ | ⟨d1, d2, hy⟩
    · skip
      have e := (h.je (a := a) (by omega)).1.1
      exfalso; first | omega | (exact absurd c2 d2) | (exact absurd d2 c2)
    · skip
      exfalso; first | omega | (exact absurd c2 d2) | (exact absurd d2 c2)
    · skip
      subst hy
      subst hz0
      exact ⟨sw_e0, fun q => absurd q (by decide), Nx.code h hU σ.2 ⟨by decide, by decide⟩⟩
set_option maxHeartbeats 4000000 in
theorem q_of {σ u : St} {n ty R D : Nat} (a w : Int) {z : Int} (h : JJ σ n ty R D) (hU : JU σ n) (hz : (z = 0 ∧ ∃ v u1, ((0 ≤ a ∧ a < σ.1 5 1) ∧ ofV w ∧ v = σ.1 (7 + 2 * a.toNat) (ofS w) ∧ u1 = σ) ∧ u = (u1.1, v, u1.2.2)) ∨ (z = 1 ∧ (¬ (0 ≤ a ∧ a < σ.1 5 1)) ∧ u = σ) ∨ (z = 2 ∧ ((0 ≤ a ∧ a < σ.1 5 1) ∧ ¬ ofV w) ∧ u = σ)) : MQr σ u ∧ ∀ (b9 : Int) (y9 : St), (((0 ≤ a ∧ a < u.1 89 11) ∧ ofV w ∧ b9 = u.1 (ofR w) a.toNat ∧ y9 = sw u 89 0 0) ∨ (¬ (0 ≤ a ∧ a < u.1 89 11) ∧ y9 = sw u 89 0 1) ∨ ((0 ≤ a ∧ a < u.1 89 11) ∧ ¬ ofV w ∧ y9 = sw u 89 0 2)) → y9.1 89 0 = z ∧ (z = 0 → y9.2.1 = b9) ∧ Nx y9 := by
  have hc := h.2.1
  unfold JC at hc
  rcases hz with ⟨hz0, v, u1, ⟨c1, c2, hv, hu1⟩, hu⟩ | ⟨hz0, c1, hu⟩ | ⟨hz0, ⟨c1, c2⟩, hu⟩
  · have hu1 := hu1.symm
    subst hu1
    subst hu
    refine ⟨MQr.rf h.1 _, fun b9 y9 hy => ?_⟩
    try dsimp only at hy
    try simp only [lenM_p, limM_p, cntM_p, inM_p, prtM_p, rstI_p] at hy
    rcases hy with ⟨d1, d2, hb, hy⟩ | ⟨d1, hy⟩ | ⟨d1, d2, hy⟩
    · skip
      subst hy
      subst hz0
      refine ⟨sw_e0, fun _ => ?_, Nx.code h hU _ R32_0⟩
      show v = b9
      have e := (h.je (a := a) (by omega)).1
      unfold JE at e
      obtain ⟨e1, e2, e3, e4, e5, e6, e7, e8⟩ := e
      rw [hv, hb]
      unfold ofV at c2
      rcases c2 with rfl | rfl | rfl | rfl | rfl
      · exact e3
      · exact e4
      · exact e5
      · exact e6
      · exact e7
    · skip
      exfalso; first | omega | (exact absurd c2 d2) | (exact absurd d2 c2)
    · skip
      exfalso; first | omega | (exact absurd c2 d2) | (exact absurd d2 c2)
  · have hu := hu.symm
    subst hu
    refine ⟨MQr.rf h.1 σ.2, fun b9 y9 hy => ?_⟩
    try dsimp only at hy
    try simp only [lenM_p, limM_p, cntM_p, inM_p, prtM_p, rstI_p] at hy
    rcases hy with ⟨d1, d2, hb, hy⟩ | ⟨d1, hy⟩ | ⟨d1, d2, hy⟩
    · skip
      exfalso; first | omega | (exact absurd c2 d2) | (exact absurd d2 c2)
    · skip
      subst hy
      subst hz0
      exact ⟨sw_e0, fun q => absurd q (by decide), Nx.code h hU σ.2 ⟨by decide, by decide⟩⟩
    · skip
      exfalso; first | omega | (exact absurd c2 d2) | (exact absurd d2 c2)
  · have hu := hu.symm
    subst hu
    refine ⟨MQr.rf h.1 σ.2, fun b9 y9 hy => ?_⟩
    try dsimp only at hy
    try simp only [lenM_p, limM_p, cntM_p, inM_p, prtM_p, rstI_p] at hy
    rcases hy with ⟨d1, d2, hb, hy⟩ | ⟨d1, hy⟩ | ⟨d1, d2, hy⟩
    · skip
      exfalso; first | omega | (exact absurd c2 d2) | (exact absurd d2 c2)
    · skip
      exfalso; first | omega | (exact absurd c2 d2) | (exact absurd d2 c2)
    · skip
      subst hy
      subst hz0
      exact ⟨sw_e0, fun q => absurd q (by decide), Nx.code h hU σ.2 ⟨by decide, by decide⟩⟩
set_option maxHeartbeats 4000000 in
theorem q_beats {σ u : St} {n ty R D : Nat} (a : Int) {z : Int} (h : JJ σ n ty R D) (hU : JU σ n) (hz : (z = 0 ∧ ∃ v u1, ((0 ≤ a ∧ a < σ.1 5 1) ∧ (0 ≤ σ.1 (7 + 2 * a.toNat) 6 ∧ σ.1 (7 + 2 * a.toNat) 6 < σ.1 5 1) ∧ v = (if cntC σ a.toNat < cntC σ (σ.1 (7 + 2 * a.toNat) 6).toNat then 1 else 0) ∧ u1 = σ) ∧ u = (u1.1, v, u1.2.2)) ∨ (z = 1 ∧ (¬ (0 ≤ a ∧ a < σ.1 5 1)) ∧ u = σ) ∨ (z = 2 ∧ ((0 ≤ a ∧ a < σ.1 5 1) ∧ ¬ (0 ≤ σ.1 (7 + 2 * a.toNat) 6 ∧ σ.1 (7 + 2 * a.toNat) 6 < σ.1 5 1)) ∧ u = σ)) : MQr σ u ∧ ∀ (b9 : Int) (y9 : St), (((0 ≤ a ∧ a < u.1 89 11) ∧ ¬ u.1 104 a.toNat = -1 ∧ b9 = (if cntM u a.toNat < cntM u (u.1 104 a.toNat).toNat then 1 else 0) ∧ y9 = sw u 89 0 0) ∨ (¬ (0 ≤ a ∧ a < u.1 89 11) ∧ y9 = sw u 89 0 1) ∨ ((0 ≤ a ∧ a < u.1 89 11) ∧ u.1 104 a.toNat = -1 ∧ y9 = sw u 89 0 2)) → y9.1 89 0 = z ∧ (z = 0 → y9.2.1 = b9 ∧ (b9 = 0 ∨ b9 = 1)) ∧ Nx y9 := by
  have hc := h.2.1
  unfold JC at hc
  rcases hz with ⟨hz0, v, u1, ⟨c1, c2, hv, hu1⟩, hu⟩ | ⟨hz0, c1, hu⟩ | ⟨hz0, ⟨c1, c2⟩, hu⟩
  · have hu1 := hu1.symm
    subst hu1
    subst hu
    refine ⟨MQr.rf h.1 _, fun b9 y9 hy => ?_⟩
    try dsimp only at hy
    rcases hy with ⟨d1, d2, hb, hy⟩ | ⟨d1, hy⟩ | ⟨d1, d2, hy⟩
    · skip
      have e := (h.je (a := a) (by omega)).1.2.2.2.2.2.1
      have m := (h.je (a := a) (by omega)).2.1.2.2.2.1
      subst hy
      subst hz0
      refine ⟨sw_e0, fun _ => ?_, Nx.code h hU _ R32_0⟩
      show v = b9 ∧ (b9 = 0 ∨ b9 = 1)
      have hb : b9 = (if cntM σ a.toNat < cntM σ (σ.1 104 a.toNat).toNat then 1 else 0) := hb
      refine ⟨?_, ?_⟩
      · rw [hv, hb, h.cnt a.toNat (by omega), e, h.cnt (σ.1 104 a.toNat).toNat (by omega)]
      · rw [hb]
        split
        · exact Or.inr rfl
        · exact Or.inl rfl
    · skip
      exfalso; first | omega | (exact absurd c2 d2) | (exact absurd d2 c2)
    · skip
      have e := (h.je (a := a) (by omega)).1.2.2.2.2.2.1
      have m := (h.je (a := a) (by omega)).2.1.2.2.2.1
      exfalso; first | omega | (exact absurd c2 d2) | (exact absurd d2 c2)
  · have hu := hu.symm
    subst hu
    refine ⟨MQr.rf h.1 σ.2, fun b9 y9 hy => ?_⟩
    try dsimp only at hy
    rcases hy with ⟨d1, d2, hb, hy⟩ | ⟨d1, hy⟩ | ⟨d1, d2, hy⟩
    · skip
      exfalso; first | omega | (exact absurd c2 d2) | (exact absurd d2 c2)
    · skip
      subst hy
      subst hz0
      exact ⟨sw_e0, fun q => absurd q (by decide), Nx.code h hU σ.2 ⟨by decide, by decide⟩⟩
    · skip
      exfalso; first | omega | (exact absurd c2 d2) | (exact absurd d2 c2)
  · have hu := hu.symm
    subst hu
    refine ⟨MQr.rf h.1 σ.2, fun b9 y9 hy => ?_⟩
    try dsimp only at hy
    rcases hy with ⟨d1, d2, hb, hy⟩ | ⟨d1, hy⟩ | ⟨d1, d2, hy⟩
    · skip
      have e := (h.je (a := a) (by omega)).1.2.2.2.2.2.1
      have m := (h.je (a := a) (by omega)).2.1.2.2.2.1
      exfalso; first | omega | (exact absurd c2 d2) | (exact absurd d2 c2)
    · skip
      exfalso; first | omega | (exact absurd c2 d2) | (exact absurd d2 c2)
    · skip
      subst hy
      subst hz0
      exact ⟨sw_e0, fun q => absurd q (by decide), Nx.code h hU σ.2 ⟨by decide, by decide⟩⟩
set_option maxHeartbeats 4000000 in
theorem q_least {σ u : St} {n ty R D : Nat} (a : Int) {z : Int} (h : JJ σ n ty R D) (hU : JU σ n) (hz : (z = 0 ∧ ∃ v u1, ((0 ≤ a ∧ a < σ.1 0 1) ∧ ¬ bestF (fun l => decide (¬ σ.1 (7 + 2 * l) 9 = 0 ∧ σ.1 (7 + 2 * l) 4 = a)) (cntC σ) n = -1 ∧ v = bestF (fun l => decide (¬ σ.1 (7 + 2 * l) 9 = 0 ∧ σ.1 (7 + 2 * l) 4 = a)) (cntC σ) n ∧ u1 = σ) ∧ u = (u1.1, v, u1.2.2)) ∨ (z = 1 ∧ (¬ (0 ≤ a ∧ a < σ.1 0 1)) ∧ u = σ) ∨ (z = 2 ∧ ((0 ≤ a ∧ a < σ.1 0 1) ∧ bestF (fun l => decide (¬ σ.1 (7 + 2 * l) 9 = 0 ∧ σ.1 (7 + 2 * l) 4 = a)) (cntC σ) n = -1) ∧ u = σ)) : MQr σ u ∧ ∀ (b9 : Int) (y9 : St), (((0 ≤ a ∧ a < u.1 89 1) ∧ ¬ bestF (fun l => decide (u.1 102 l = a ∧ u.1 107 l = 0)) (cntM u) n = -1 ∧ b9 = bestF (fun l => decide (u.1 102 l = a ∧ u.1 107 l = 0)) (cntM u) n ∧ y9 = sw u 89 0 0) ∨ (¬ (0 ≤ a ∧ a < u.1 89 1) ∧ y9 = sw u 89 0 1) ∨ ((0 ≤ a ∧ a < u.1 89 1) ∧ bestF (fun l => decide (u.1 102 l = a ∧ u.1 107 l = 0)) (cntM u) n = -1 ∧ y9 = sw u 89 0 2)) → y9.1 89 0 = z ∧ (z = 0 → y9.2.1 = b9) ∧ Nx y9 := by
  have hc := h.2.1
  unfold JC at hc
  rw [h.least] at hz
  rcases hz with ⟨hz0, v, u1, ⟨c1, c2, hv, hu1⟩, hu⟩ | ⟨hz0, c1, hu⟩ | ⟨hz0, ⟨c1, c2⟩, hu⟩
  · have hu1 := hu1.symm
    subst hu1
    subst hu
    refine ⟨MQr.rf h.1 _, fun b9 y9 hy => ?_⟩
    try dsimp only at hy
    try simp only [lenM_p, limM_p, cntM_p, inM_p, prtM_p, rstI_p] at hy
    rcases hy with ⟨d1, d2, hb, hy⟩ | ⟨d1, hy⟩ | ⟨d1, d2, hy⟩
    · skip
      subst hy
      subst hz0
      refine ⟨sw_e0, fun _ => ?_, Nx.code h hU _ R32_0⟩
      show v = b9
      rw [hv, hb]
    · skip
      exfalso; first | omega | (exact absurd c2 d2) | (exact absurd d2 c2)
    · skip
      exfalso; first | omega | (exact absurd c2 d2) | (exact absurd d2 c2)
  · have hu := hu.symm
    subst hu
    refine ⟨MQr.rf h.1 σ.2, fun b9 y9 hy => ?_⟩
    try dsimp only at hy
    try simp only [lenM_p, limM_p, cntM_p, inM_p, prtM_p, rstI_p] at hy
    rcases hy with ⟨d1, d2, hb, hy⟩ | ⟨d1, hy⟩ | ⟨d1, d2, hy⟩
    · skip
      exfalso; first | omega | (exact absurd c2 d2) | (exact absurd d2 c2)
    · skip
      subst hy
      subst hz0
      exact ⟨sw_e0, fun q => absurd q (by decide), Nx.code h hU σ.2 ⟨by decide, by decide⟩⟩
    · skip
      exfalso; first | omega | (exact absurd c2 d2) | (exact absurd d2 c2)
  · have hu := hu.symm
    subst hu
    refine ⟨MQr.rf h.1 σ.2, fun b9 y9 hy => ?_⟩
    try dsimp only at hy
    try simp only [lenM_p, limM_p, cntM_p, inM_p, prtM_p, rstI_p] at hy
    rcases hy with ⟨d1, d2, hb, hy⟩ | ⟨d1, hy⟩ | ⟨d1, d2, hy⟩
    · skip
      exfalso; first | omega | (exact absurd c2 d2) | (exact absurd d2 c2)
    · skip
      exfalso; first | omega | (exact absurd c2 d2) | (exact absurd d2 c2)
    · skip
      subst hy
      subst hz0
      exact ⟨sw_e0, fun q => absurd q (by decide), Nx.code h hU σ.2 ⟨by decide, by decide⟩⟩
set_option maxHeartbeats 4000000 in
theorem q_base {σ u : St} {n ty R D : Nat} (a : Int) {z : Int} (h : JJ σ n ty R D) (hU : JU σ n) (hz : (z = 0 ∧ ∃ v u1, ((0 ≤ a ∧ a < σ.1 5 1) ∧ ¬ σ.1 (7 + 2 * a.toNat) 10 = -1 ∧ v = σ.1 (7 + 2 * a.toNat) 10 ∧ u1 = σ) ∧ u = (u1.1, v, u1.2.2)) ∨ (z = 1 ∧ (¬ (0 ≤ a ∧ a < σ.1 5 1)) ∧ u = σ) ∨ (z = 2 ∧ ((0 ≤ a ∧ a < σ.1 5 1) ∧ σ.1 (7 + 2 * a.toNat) 10 = -1) ∧ u = σ)) : MQr σ u ∧ ∀ (b9 : Int) (y9 : St), (((0 ≤ a ∧ a < u.1 89 11) ∧ ¬ u.1 106 a.toNat = -1 ∧ b9 = u.1 106 a.toNat ∧ y9 = sw u 89 0 0) ∨ (¬ (0 ≤ a ∧ a < u.1 89 11) ∧ y9 = sw u 89 0 1) ∨ ((0 ≤ a ∧ a < u.1 89 11) ∧ u.1 106 a.toNat = -1 ∧ y9 = sw u 89 0 2)) → y9.1 89 0 = z ∧ (z = 0 → y9.2.1 = b9) ∧ Nx y9 := by
  have hc := h.2.1
  unfold JC at hc
  rcases hz with ⟨hz0, v, u1, ⟨c1, c2, hv, hu1⟩, hu⟩ | ⟨hz0, c1, hu⟩ | ⟨hz0, ⟨c1, c2⟩, hu⟩
  · have hu1 := hu1.symm
    subst hu1
    subst hu
    refine ⟨MQr.rf h.1 _, fun b9 y9 hy => ?_⟩
    try dsimp only at hy
    try simp only [lenM_p, limM_p, cntM_p, inM_p, prtM_p, rstI_p] at hy
    rcases hy with ⟨d1, d2, hb, hy⟩ | ⟨d1, hy⟩ | ⟨d1, d2, hy⟩
    · skip
      have e := (h.je (a := a) (by omega)).1
      unfold JE at e
      subst hy
      subst hz0
      refine ⟨sw_e0, fun _ => ?_, Nx.code h hU _ R32_0⟩
      show v = b9
      rw [hv, hb]
      omega
    · skip
      exfalso; first | omega | (exact absurd c2 d2) | (exact absurd d2 c2)
    · skip
      have e := (h.je (a := a) (by omega)).1
      unfold JE at e
      exfalso; first | omega | (exact absurd c2 d2) | (exact absurd d2 c2)
  · have hu := hu.symm
    subst hu
    refine ⟨MQr.rf h.1 σ.2, fun b9 y9 hy => ?_⟩
    try dsimp only at hy
    try simp only [lenM_p, limM_p, cntM_p, inM_p, prtM_p, rstI_p] at hy
    rcases hy with ⟨d1, d2, hb, hy⟩ | ⟨d1, hy⟩ | ⟨d1, d2, hy⟩
    · skip
      exfalso; first | omega | (exact absurd c2 d2) | (exact absurd d2 c2)
    · skip
      subst hy
      subst hz0
      exact ⟨sw_e0, fun q => absurd q (by decide), Nx.code h hU σ.2 ⟨by decide, by decide⟩⟩
    · skip
      exfalso; first | omega | (exact absurd c2 d2) | (exact absurd d2 c2)
  · have hu := hu.symm
    subst hu
    refine ⟨MQr.rf h.1 σ.2, fun b9 y9 hy => ?_⟩
    try dsimp only at hy
    try simp only [lenM_p, limM_p, cntM_p, inM_p, prtM_p, rstI_p] at hy
    rcases hy with ⟨d1, d2, hb, hy⟩ | ⟨d1, hy⟩ | ⟨d1, d2, hy⟩
    · skip
      have e := (h.je (a := a) (by omega)).1
      unfold JE at e
      exfalso; first | omega | (exact absurd c2 d2) | (exact absurd d2 c2)
    · skip
      exfalso; first | omega | (exact absurd c2 d2) | (exact absurd d2 c2)
    · skip
      subst hy
      subst hz0
      exact ⟨sw_e0, fun q => absurd q (by decide), Nx.code h hU σ.2 ⟨by decide, by decide⟩⟩
set_option maxHeartbeats 4000000 in
theorem q_depth {σ u : St} {n ty R D : Nat} (a : Int) {z : Int} (h : JJ σ n ty R D) (hU : JU σ n) (hz : (z = 0 ∧ ∃ v u1, (0 ≤ a ∧ a < σ.1 5 1 ∧ v = σ.1 (7 + 2 * a.toNat) 11 ∧ u1 = σ) ∧ u = (u1.1, v, u1.2.2)) ∨ (z = 1 ∧ (¬ (0 ≤ a ∧ a < σ.1 5 1) ∧ u = σ))) : MQr σ u ∧ ∀ (b9 : Int) (y9 : St), (((0 ≤ a ∧ a < u.1 89 11) ∧ b9 = dpR σ a.toNat ∧ y9 = sw u 89 0 0) ∨ (¬ (0 ≤ a ∧ a < u.1 89 11) ∧ y9 = sw u 89 0 1)) → y9.1 89 0 = z ∧ (z = 0 → y9.2.1 = b9) ∧ Nx y9 := by
  have hc := h.2.1
  unfold JC at hc
  rcases hz with ⟨hz0, v, u1, ⟨c1, c2, hv, hu1⟩, hu⟩ | ⟨hz0, c1, hu⟩
  · have hu1 := hu1.symm
    subst hu1
    subst hu
    refine ⟨MQr.rf h.1 _, fun b9 y9 hy => ?_⟩
    try dsimp only at hy
    try simp only [lenM_p, limM_p, cntM_p, inM_p, prtM_p, rstI_p] at hy
    rcases hy with ⟨d1, hb, hy⟩ | ⟨d1, hy⟩
    · skip
      subst hy
      subst hz0
      refine ⟨sw_e0, fun _ => ?_, Nx.code h hU _ R32_0⟩
      show v = b9
      rw [hv, hb]
      rfl
    · skip
      exfalso; first | omega | (exact absurd c2 d2) | (exact absurd d2 c2)
  · have hu := hu.symm
    subst hu
    refine ⟨MQr.rf h.1 σ.2, fun b9 y9 hy => ?_⟩
    try dsimp only at hy
    try simp only [lenM_p, limM_p, cntM_p, inM_p, prtM_p, rstI_p] at hy
    rcases hy with ⟨d1, hb, hy⟩ | ⟨d1, hy⟩
    · skip
      exfalso; first | omega | (exact absurd c2 d2) | (exact absurd d2 c2)
    · skip
      subst hy
      subst hz0
      exact ⟨sw_e0, fun q => absurd q (by decide), Nx.code h hU σ.2 ⟨by decide, by decide⟩⟩
set_option maxHeartbeats 4000000 in
theorem q_parts {σ u : St} {n ty R D : Nat} (a : Int) {z : Int} (h : JJ σ n ty R D) (hU : JU σ n) (hz : (z = 0 ∧ ∃ v u1, (0 ≤ a ∧ a < σ.1 5 1 ∧ v = σ.1 (7 + 2 * a.toNat) 12 ∧ u1 = σ) ∧ u = (u1.1, v, u1.2.2)) ∨ (z = 1 ∧ (¬ (0 ≤ a ∧ a < σ.1 5 1) ∧ u = σ))) : MQr σ u ∧ ∀ (b9 : Int) (y9 : St), (((0 ≤ a ∧ a < u.1 89 11) ∧ b9 = prtM u a.toNat ∧ y9 = sw u 89 0 0) ∨ (¬ (0 ≤ a ∧ a < u.1 89 11) ∧ y9 = sw u 89 0 1)) → y9.1 89 0 = z ∧ (z = 0 → y9.2.1 = b9) ∧ Nx y9 := by
  have hc := h.2.1
  unfold JC at hc
  rcases hz with ⟨hz0, v, u1, ⟨c1, c2, hv, hu1⟩, hu⟩ | ⟨hz0, c1, hu⟩
  · have hu1 := hu1.symm
    subst hu1
    subst hu
    refine ⟨MQr.rf h.1 _, fun b9 y9 hy => ?_⟩
    try dsimp only at hy
    try simp only [lenM_p, limM_p, cntM_p, inM_p, prtM_p, rstI_p] at hy
    rcases hy with ⟨d1, hb, hy⟩ | ⟨d1, hy⟩
    · skip
      subst hy
      subst hz0
      refine ⟨sw_e0, fun _ => ?_, Nx.code h hU _ R32_0⟩
      show v = b9
      rw [hv, hb]
      exact (h.je (a := a) (by omega)).1.2.2.2.2.2.2.2.2.2.2
    · skip
      exfalso; first | omega | (exact absurd c2 d2) | (exact absurd d2 c2)
  · have hu := hu.symm
    subst hu
    refine ⟨MQr.rf h.1 σ.2, fun b9 y9 hy => ?_⟩
    try dsimp only at hy
    try simp only [lenM_p, limM_p, cntM_p, inM_p, prtM_p, rstI_p] at hy
    rcases hy with ⟨d1, hb, hy⟩ | ⟨d1, hy⟩
    · skip
      exfalso; first | omega | (exact absurd c2 d2) | (exact absurd d2 c2)
    · skip
      subst hy
      subst hz0
      exact ⟨sw_e0, fun q => absurd q (by decide), Nx.code h hU σ.2 ⟨by decide, by decide⟩⟩
set_option maxHeartbeats 4000000 in
theorem q_resting {σ u : St} {n ty R D : Nat} (a : Int) {z : Int} (h : JJ σ n ty R D) (hU : JU σ n) (hz : (z = 0 ∧ ∃ v u1, (0 ≤ a ∧ a < σ.1 5 1 ∧ v = sumF (fun l => if a.toNat < l ∧ wkS (bsC σ) n (a.toNat : Int) (l : Int) 5 = (a.toNat : Int) then 1 else 0) n ∧ u1 = σ) ∧ u = (u1.1, v, u1.2.2)) ∨ (z = 1 ∧ (¬ (0 ≤ a ∧ a < σ.1 5 1) ∧ u = σ))) : MQr σ u ∧ ∀ (b9 : Int) (y9 : St), (((0 ≤ a ∧ a < u.1 89 11) ∧ b9 = sumF (fun l => rstI u l a) n ∧ y9 = sw u 89 0 0) ∨ (¬ (0 ≤ a ∧ a < u.1 89 11) ∧ y9 = sw u 89 0 1)) → y9.1 89 0 = z ∧ (z = 0 → y9.2.1 = b9) ∧ Nx y9 := by
  have hc := h.2.1
  unfold JC at hc
  rcases hz with ⟨hz0, v, u1, ⟨c1, c2, hv, hu1⟩, hu⟩ | ⟨hz0, c1, hu⟩
  · have hu1 := hu1.symm
    subst hu1
    subst hu
    refine ⟨MQr.rf h.1 _, fun b9 y9 hy => ?_⟩
    try dsimp only at hy
    try simp only [lenM_p, limM_p, cntM_p, inM_p, prtM_p, rstI_p] at hy
    rcases hy with ⟨d1, hb, hy⟩ | ⟨d1, hy⟩
    · skip
      subst hy
      subst hz0
      refine ⟨sw_e0, fun _ => ?_, Nx.code h hU _ R32_0⟩
      show v = b9
      rw [hv, hb]
      exact sumF_congr n (fun l hl => (h.rest (a := a.toNat) hl).trans (by rw [show ((a.toNat : Nat) : Int) = a by omega]))
    · skip
      exfalso; first | omega | (exact absurd c2 d2) | (exact absurd d2 c2)
  · have hu := hu.symm
    subst hu
    refine ⟨MQr.rf h.1 σ.2, fun b9 y9 hy => ?_⟩
    try dsimp only at hy
    try simp only [lenM_p, limM_p, cntM_p, inM_p, prtM_p, rstI_p] at hy
    rcases hy with ⟨d1, hb, hy⟩ | ⟨d1, hy⟩
    · skip
      exfalso; first | omega | (exact absurd c2 d2) | (exact absurd d2 c2)
    · skip
      subst hy
      subst hz0
      exact ⟨sw_e0, fun q => absurd q (by decide), Nx.code h hU σ.2 ⟨by decide, by decide⟩⟩
set_option maxHeartbeats 4000000 in
theorem q_stands {σ u : St} {n ty R D : Nat} (a : Int) {z : Int} (h : JJ σ n ty R D) (hU : JU σ n) (hz : (z = 0 ∧ ∃ v u1, (0 ≤ a ∧ a < σ.1 5 1 ∧ v = σ.1 (7 + 2 * a.toNat) 9 ∧ u1 = σ) ∧ u = (u1.1, v, u1.2.2)) ∨ (z = 1 ∧ (¬ (0 ≤ a ∧ a < σ.1 5 1) ∧ u = σ))) : MQr σ u ∧ ∀ (b9 : Int) (y9 : St), (((0 ≤ a ∧ a < u.1 89 11) ∧ b9 = (if u.1 107 a.toNat = 0 then 1 else 0) ∧ y9 = sw u 89 0 0) ∨ (¬ (0 ≤ a ∧ a < u.1 89 11) ∧ y9 = sw u 89 0 1)) → y9.1 89 0 = z ∧ (z = 0 → y9.2.1 = b9 ∧ (b9 = 0 ∨ b9 = 1)) ∧ Nx y9 := by
  have hc := h.2.1
  unfold JC at hc
  rcases hz with ⟨hz0, v, u1, ⟨c1, c2, hv, hu1⟩, hu⟩ | ⟨hz0, c1, hu⟩
  · have hu1 := hu1.symm
    subst hu1
    subst hu
    refine ⟨MQr.rf h.1 _, fun b9 y9 hy => ?_⟩
    try dsimp only at hy
    try simp only [lenM_p, limM_p, cntM_p, inM_p, prtM_p, rstI_p] at hy
    rcases hy with ⟨d1, hb, hy⟩ | ⟨d1, hy⟩
    · skip
      subst hy
      subst hz0
      refine ⟨sw_e0, fun _ => ?_, Nx.code h hU _ R32_0⟩
      show v = b9 ∧ (b9 = 0 ∨ b9 = 1)
      have e := (h.je (a := a) (by omega)).1.2.2.2.2.2.2.2.2.1
      have m := (h.je (a := a) (by omega)).2.1.2.2.2.2.2
      refine ⟨?_, ?_⟩
      · rw [hv, hb, e]
        split <;> omega
      · rw [hb]
        split
        · exact Or.inr rfl
        · exact Or.inl rfl
    · skip
      exfalso; first | omega | (exact absurd c2 d2) | (exact absurd d2 c2)
  · have hu := hu.symm
    subst hu
    refine ⟨MQr.rf h.1 σ.2, fun b9 y9 hy => ?_⟩
    try dsimp only at hy
    try simp only [lenM_p, limM_p, cntM_p, inM_p, prtM_p, rstI_p] at hy
    rcases hy with ⟨d1, hb, hy⟩ | ⟨d1, hy⟩
    · skip
      exfalso; first | omega | (exact absurd c2 d2) | (exact absurd d2 c2)
    · skip
      subst hy
      subst hz0
      exact ⟨sw_e0, fun q => absurd q (by decide), Nx.code h hU σ.2 ⟨by decide, by decide⟩⟩
