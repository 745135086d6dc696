/-! ===== each call on both sides: what changes the game ===== -/
set_option maxHeartbeats 4000000 in
theorem q_track {σ u : St} {n ty R D : Nat} {z : Int} (h : JJ σ n ty R D) (hU : JU σ n) (hz : (z = 0 ∧ ∃ v u1, (σ.1 0 1 < 4 ∧ v = σ.1 0 1 ∧ u1 = sw σ 0 1 (σ.1 0 1 + 1)) ∧ u = (u1.1, v, u1.2.2)) ∨ (z = 1 ∧ (¬ σ.1 0 1 < 4 ∧ u = σ))) : MQr σ u ∧ ∀ (b9 : Int) (y9 : St), ((u.1 89 1 < 4 ∧ b9 = u.1 89 1 ∧ y9 = sw (sw u 89 0 0) 89 1 (u.1 89 1 + 1)) ∨ (¬ u.1 89 1 < 4 ∧ y9 = sw u 89 0 1)) → y9.1 89 0 = z ∧ (z = 0 → y9.2.1 = b9) ∧ Nx y9 := by
  have hc := h.2.1
  have hG := h.1
  unfold JC at hc
  rcases hz with ⟨hz0, v, u1, ⟨c1, hv, hu1⟩, hu⟩ | ⟨hz0, c1, hu⟩
  · have hG2 : RG (sw σ 0 1 (σ.1 0 1 + 1)) := hG.sw _ _ ⟨by omega, by omega⟩
    subst hu1
    subst hu
    refine ⟨⟨fun q h1 h2 => sw_ne (by omega), hG2⟩, fun b9 y9 hy => ?_⟩
    have e1 : (sw σ 0 1 (σ.1 0 1 + 1)).1 89 1 = σ.1 89 1 := rd_n (by decide)
    dsimp only at hy
    rw [e1] at hy
    rcases hy with ⟨d1, hb, hy⟩ | ⟨d1, hy⟩
    · subst hy
      subst hz0
      refine ⟨by rw [rd_k (by decide)]; exact sw_e0, fun _ => ?_, Nx.mk (h.p_track c1) hU.u_track rfl⟩
      show v = b9
      omega
    · exfalso; omega
  · have hu := hu.symm
    subst hu
    refine ⟨MQr.rf hG σ.2, fun b9 y9 hy => ?_⟩
    rcases hy with ⟨d1, hb, hy⟩ | ⟨d1, hy⟩
    · skip
      exfalso; omega
    · skip
      subst hy
      subst hz0
      exact ⟨sw_e0, fun q => absurd q (by decide), Nx.code h hU σ.2 ⟨by decide, by decide⟩⟩
theorem appF_q {σ : St} {t k : Nat} {len lim : Int} (ht : t < 4) : ∀ q, 89 ≤ q → (appF σ t k len lim).1 q = σ.1 q := fun q h1 => by
  unfold appF
  rw [sw_ne (by omega), sw_ne (by omega), sw_ne (by omega), sw_ne (by omega)]
set_option maxHeartbeats 4000000 in
theorem q_stretch {σ u : St} {n ty R D : Nat} (a len lim : Int) {z : Int} (h : JJ σ n ty R D) (hU : JU σ n) (hz : (z = 0 ∧ ∃ v u1, ((0 ≤ a ∧ a < σ.1 0 1) ∧ ((1 ≤ len ∧ len ≤ 30) ∧ 1 ≤ lim ∧ lim ≤ 9) ∧ σ.1 (73 + 3 * a.toNat) 4 = 0 ∧ σ.1 (73 + 3 * a.toNat) 2 < 12 ∧ v = σ.1 (73 + 3 * a.toNat) 3 + len ∧ u1 = appF σ a.toNat (σ.1 (73 + 3 * a.toNat) 2).toNat len lim) ∧ u = (u1.1, v, u1.2.2)) ∨ (z = 1 ∧ (¬ (0 ≤ a ∧ a < σ.1 0 1)) ∧ u = σ) ∨ (z = 2 ∧ ((0 ≤ a ∧ a < σ.1 0 1) ∧ ¬ ((1 ≤ len ∧ len ≤ 30) ∧ 1 ≤ lim ∧ lim ≤ 9)) ∧ u = σ) ∨ (z = 3 ∧ ((0 ≤ a ∧ a < σ.1 0 1) ∧ ((1 ≤ len ∧ len ≤ 30) ∧ 1 ≤ lim ∧ lim ≤ 9) ∧ ¬ σ.1 (73 + 3 * a.toNat) 4 = 0) ∧ u = σ) ∨ (z = 4 ∧ ((0 ≤ a ∧ a < σ.1 0 1) ∧ ((1 ≤ len ∧ len ≤ 30) ∧ 1 ≤ lim ∧ lim ≤ 9) ∧ σ.1 (73 + 3 * a.toNat) 4 = 0 ∧ ¬ σ.1 (73 + 3 * a.toNat) 2 < 12) ∧ u = σ)) : MQr σ u ∧ ∀ (b9 : Int) (y9 : St), (((0 ≤ a ∧ a < u.1 89 1) ∧ ((1 ≤ len ∧ len ≤ 30) ∧ 1 ≤ lim ∧ lim ≤ 9) ∧ drvM u a n = 0 ∧ u.1 90 a.toNat < 12 ∧ b9 = lenM (strM u a.toNat (u.1 90 a.toNat).toNat len lim) a.toNat ∧ y9 = strM u a.toNat (u.1 90 a.toNat).toNat len lim) ∨ (¬ (0 ≤ a ∧ a < u.1 89 1) ∧ y9 = sw u 89 0 1) ∨ ((0 ≤ a ∧ a < u.1 89 1) ∧ ¬ ((1 ≤ len ∧ len ≤ 30) ∧ 1 ≤ lim ∧ lim ≤ 9) ∧ y9 = sw u 89 0 2) ∨ ((0 ≤ a ∧ a < u.1 89 1) ∧ ((1 ≤ len ∧ len ≤ 30) ∧ 1 ≤ lim ∧ lim ≤ 9) ∧ drvM u a n = 1 ∧ y9 = sw u 89 0 3) ∨ ((0 ≤ a ∧ a < u.1 89 1) ∧ ((1 ≤ len ∧ len ≤ 30) ∧ 1 ≤ lim ∧ lim ≤ 9) ∧ drvM u a n = 0 ∧ ¬ u.1 90 a.toNat < 12 ∧ y9 = sw u 89 0 4)) → y9.1 89 0 = z ∧ (z = 0 → y9.2.1 = b9) ∧ Nx y9 := by
  have hc := h.2.1
  have hG := h.1
  unfold JC at hc
  rcases hz with ⟨hz0, v, u1, ⟨c1, c2, c3, c4, hv, hu1⟩, hu⟩ | ⟨hz0, c1, hu⟩ | ⟨hz0, ⟨c1, c2⟩, hu⟩ | ⟨hz0, ⟨c1, c2, c3⟩, hu⟩ | ⟨hz0, ⟨c1, c2, c3, c4⟩, hu⟩
  · have ht : a.toNat < 4 := by omega
    obtain ⟨j1, j2, -, j4⟩ := h.jt c1
    rw [show ((a.toNat : Nat) : Int) = a by omega] at j4
    have hT := h.2.2.1.1.1 a.toNat ht
    obtain ⟨p1, p2⟩ := h.p_stretch ht c3 (by omega) c2.1 c2.2
    have hq := fun q (h1 : 89 ≤ q) => appF_q (σ := σ) (t := a.toNat) (k := (σ.1 (73 + 3 * a.toNat) 2).toNat) (len := len) (lim := lim) ht q h1
    have hl3 := (h.Tk a.toNat ht).2.2
    have hG2 : RG (appF σ a.toNat (σ.1 (73 + 3 * a.toNat) 2).toNat len lim) := (((hG.sw _ _ ⟨by omega, by omega⟩).sw _ _ ⟨by omega, by omega⟩).sw _ _ ⟨by omega, by omega⟩).sw _ _ ⟨by omega, by omega⟩
    subst hu1
    subst hu
    have f : MQr σ ((appF σ a.toNat (σ.1 (73 + 3 * a.toNat) 2).toNat len lim).1, v, (appF σ a.toNat (σ.1 (73 + 3 * a.toNat) 2).toNat len lim).2.2) := ⟨fun q h1 _ => hq q h1, hG2⟩
    refine ⟨f, fun b9 y9 hy => ?_⟩
    rw [f.1 89 (by decide) (by decide), f.1 90 (by decide) (by decide), drvM_of (f.1 102 (by decide) (by decide)) n, ← j4] at hy
    rcases hy with ⟨d1, d2, d3, d4, hb, hy⟩ | ⟨d1, hy⟩ | ⟨d1, d2, hy⟩ | ⟨d1, d2, d3, hy⟩ | ⟨d1, d2, d3, d4, hy⟩
    · subst hy
      subst hz0
      refine ⟨?_, fun _ => ?_, Nx.mk p1 (hU.u_stretch ht) ?_⟩
      · rw [show (strM ((appF σ a.toNat (σ.1 (73 + 3 * a.toNat) 2).toNat len lim).1, v, (appF σ a.toNat (σ.1 (73 + 3 * a.toNat) 2).toNat len lim).2.2) a.toNat (σ.1 90 a.toNat).toNat len lim) = sw (sw (sw (sw _ 89 0 0) 91 _ len) 92 _ lim) 90 _ _ from rfl, rd_n (by decide), rd_n (by decide), rd_n (by decide)]
        exact sw_e0
      · show v = b9
        rw [hv, hb, ← p2]
        rfl
      · rw [show (σ.1 (73 + 3 * a.toNat) 2).toNat = (σ.1 90 a.toNat).toNat by rw [j1]]
        rfl
    · exfalso; omega
    · exfalso; omega
    · exfalso; omega
    · exfalso; omega
  · have hu := hu.symm
    subst hu
    refine ⟨MQr.rf hG σ.2, fun b9 y9 hy => ?_⟩
    rcases hy with ⟨d1, d2, d3, d4, hb, hy⟩ | ⟨d1, hy⟩ | ⟨d1, d2, hy⟩ | ⟨d1, d2, d3, hy⟩ | ⟨d1, d2, d3, d4, hy⟩
    · skip
      exfalso; omega
    · skip
      subst hy
      subst hz0
      exact ⟨sw_e0, fun q => absurd q (by decide), Nx.code h hU σ.2 ⟨by decide, by decide⟩⟩
    · skip
      exfalso; omega
    · skip
      exfalso; omega
    · skip
      exfalso; omega
  · have hu := hu.symm
    subst hu
    obtain ⟨j1, j2, -, j4⟩ := h.jt c1
    rw [show ((a.toNat : Nat) : Int) = a by omega] at j4
    refine ⟨MQr.rf hG σ.2, fun b9 y9 hy => ?_⟩
    rw [← j4] at hy
    rcases hy with ⟨d1, d2, d3, d4, hb, hy⟩ | ⟨d1, hy⟩ | ⟨d1, d2, hy⟩ | ⟨d1, d2, d3, hy⟩ | ⟨d1, d2, d3, d4, hy⟩
    · skip
      exfalso; omega
    · skip
      exfalso; omega
    · skip
      subst hy
      subst hz0
      exact ⟨sw_e0, fun q => absurd q (by decide), Nx.code h hU σ.2 ⟨by decide, by decide⟩⟩
    · skip
      exfalso; omega
    · skip
      exfalso; omega
  · have hu := hu.symm
    subst hu
    obtain ⟨j1, j2, -, j4⟩ := h.jt c1
    rw [show ((a.toNat : Nat) : Int) = a by omega] at j4
    refine ⟨MQr.rf hG σ.2, fun b9 y9 hy => ?_⟩
    rw [← j4] at hy
    rcases hy with ⟨d1, d2, d3, d4, hb, hy⟩ | ⟨d1, hy⟩ | ⟨d1, d2, hy⟩ | ⟨d1, d2, d3, hy⟩ | ⟨d1, d2, d3, d4, hy⟩
    · skip
      exfalso; omega
    · skip
      exfalso; omega
    · skip
      exfalso; omega
    · skip
      subst hy
      subst hz0
      exact ⟨sw_e0, fun q => absurd q (by decide), Nx.code h hU σ.2 ⟨by decide, by decide⟩⟩
    · skip
      exfalso; omega
  · have hu := hu.symm
    subst hu
    obtain ⟨j1, j2, -, j4⟩ := h.jt c1
    rw [show ((a.toNat : Nat) : Int) = a by omega] at j4
    refine ⟨MQr.rf hG σ.2, fun b9 y9 hy => ?_⟩
    rw [← j4] at hy
    rcases hy with ⟨d1, d2, d3, d4, hb, hy⟩ | ⟨d1, hy⟩ | ⟨d1, d2, hy⟩ | ⟨d1, d2, d3, hy⟩ | ⟨d1, d2, d3, d4, hy⟩
    · skip
      exfalso; omega
    · skip
      exfalso; omega
    · skip
      exfalso; omega
    · skip
      exfalso; omega
    · skip
      subst hy
      subst hz0
      exact ⟨sw_e0, fun q => absurd q (by decide), Nx.code h hU σ.2 ⟨by decide, by decide⟩⟩
set_option maxHeartbeats 4000000 in
theorem q_car {σ u : St} {n ty R D : Nat} (a b d : Int) {z : Int} (h : JJ σ n ty R D) (hU : JU σ n) (hz : (z = 0 ∧ ∃ v u1, (((1 ≤ a ∧ a ≤ 9) ∧ (1 ≤ b ∧ b ≤ 4) ∧ 0 ≤ d ∧ d ≤ 3) ∧ (σ.1 89 5).toNat < 4 ∧ v = σ.1 0 3 ∧ u1 = carF σ (σ.1 89 5).toNat a b d) ∧ u = (u1.1, v, u1.2.2)) ∨ (z = 1 ∧ (¬ ((1 ≤ a ∧ a ≤ 9) ∧ (1 ≤ b ∧ b ≤ 4) ∧ 0 ≤ d ∧ d ≤ 3)) ∧ u = σ) ∨ (z = 2 ∧ (((1 ≤ a ∧ a ≤ 9) ∧ (1 ≤ b ∧ b ≤ 4) ∧ 0 ≤ d ∧ d ≤ 3) ∧ ¬ (σ.1 89 5).toNat < 4) ∧ u = σ)) : MQr σ u ∧ ∀ (b9 : Int) (y9 : St), ((((1 ≤ a ∧ a ≤ 9) ∧ (1 ≤ b ∧ b ≤ 4) ∧ 0 ≤ d ∧ d ≤ 3) ∧ (σ.1 89 5).toNat < 4 ∧ b9 = u.1 89 5 ∧ y9 = carM u (σ.1 89 5).toNat a b d) ∨ (¬ ((1 ≤ a ∧ a ≤ 9) ∧ (1 ≤ b ∧ b ≤ 4) ∧ 0 ≤ d ∧ d ≤ 3) ∧ y9 = sw u 89 0 1) ∨ (((1 ≤ a ∧ a ≤ 9) ∧ (1 ≤ b ∧ b ≤ 4) ∧ 0 ≤ d ∧ d ≤ 3) ∧ ¬ (σ.1 89 5).toNat < 4 ∧ y9 = sw u 89 0 2)) → y9.1 89 0 = z ∧ (z = 0 → y9.2.1 = b9) ∧ Nx y9 := by
  have hc := h.2.1
  have hG := h.1
  unfold JC at hc
  rcases hz with ⟨hz0, v, u1, ⟨c1, c2, hv, hu1⟩, hu⟩ | ⟨hz0, c1, hu⟩ | ⟨hz0, ⟨c1, c2⟩, hu⟩
  · have hc3 : (σ.1 89 5).toNat < 4 := c2
    have hG2 : RG (carF σ (σ.1 89 5).toNat a b d) := (((hG.sw _ _ ⟨by omega, by omega⟩).sw _ _ ⟨by omega, by omega⟩).sw _ _ ⟨by omega, by omega⟩).sw _ _ ⟨by omega, by omega⟩
    have hq : ∀ q, 89 ≤ q → (carF σ (σ.1 89 5).toNat a b d).1 q = σ.1 q := fun q h1 => by
      unfold carF
      rw [sw_ne (by omega), sw_ne (by omega), sw_ne (by omega), sw_ne (by omega)]
    subst hu1
    subst hu
    have f : MQr σ ((carF σ (σ.1 89 5).toNat a b d).1, v, (carF σ (σ.1 89 5).toNat a b d).2.2) := ⟨fun q h1 _ => hq q h1, hG2⟩
    refine ⟨f, fun b9 y9 hy => ?_⟩
    rw [f.1 89 (by decide) (by decide)] at hy
    rcases hy with ⟨d1, d2, hb, hy⟩ | ⟨d1, hy⟩ | ⟨d1, d2, hy⟩
    · subst hy
      subst hz0
      refine ⟨?_, fun _ => ?_, Nx.mk (h.p_car (by omega) c2 c1.1 c1.2.1 c1.2.2) (hU.u_car c2) rfl⟩
      · rw [show (carM ((carF σ (σ.1 89 5).toNat a b d).1, v, (carF σ (σ.1 89 5).toNat a b d).2.2) (σ.1 89 5).toNat a b d) = sw (sw (sw (sw (sw _ 89 0 0) 93 _ a) 94 _ b) 95 _ d) 89 5 _ from rfl, rd_k (by decide), rd_n (by decide), rd_n (by decide), rd_n (by decide)]
        exact sw_e0
      · show v = b9
        omega
    · exfalso; omega
    · exfalso; omega
  · have hu := hu.symm
    subst hu
    refine ⟨MQr.rf hG σ.2, fun b9 y9 hy => ?_⟩
    rcases hy with ⟨d1, d2, hb, hy⟩ | ⟨d1, hy⟩ | ⟨d1, d2, hy⟩
    · skip
      exfalso; omega
    · skip
      subst hy
      subst hz0
      exact ⟨sw_e0, fun q => absurd q (by decide), Nx.code h hU σ.2 ⟨by decide, by decide⟩⟩
    · skip
      exfalso; omega
  · have hu := hu.symm
    subst hu
    refine ⟨MQr.rf hG σ.2, fun b9 y9 hy => ?_⟩
    rcases hy with ⟨d1, d2, hb, hy⟩ | ⟨d1, hy⟩ | ⟨d1, d2, hy⟩
    · skip
      exfalso; omega
    · skip
      exfalso; omega
    · skip
      subst hy
      subst hz0
      exact ⟨sw_e0, fun q => absurd q (by decide), Nx.code h hU σ.2 ⟨by decide, by decide⟩⟩
set_option maxHeartbeats 4000000 in
theorem q_type {σ u : St} {n ty R D : Nat} (a k : Int) {z : Int} (h : JJ σ n ty R D) (hU : JU σ n) (hac : 0 ≤ a ∧ a < 65536) (hz : (z = 0 ∧ ∃ v u1, (((a = 43 ∨ a = 45 ∨ a = 61) ∧ 1 ≤ k ∧ k ≤ 20) ∧ ty + k.toNat ≤ 60 ∧ v = ((ty + k.toNat : Nat) : Int) ∧ u1 = sw (tyS σ a ty (ty + k.toNat)) 0 5 ((ty + k.toNat : Nat) : Int)) ∧ u = (u1.1, v, u1.2.2)) ∨ (z = 1 ∧ (¬ ((a = 43 ∨ a = 45 ∨ a = 61) ∧ 1 ≤ k ∧ k ≤ 20)) ∧ u = σ) ∨ (z = 2 ∧ (((a = 43 ∨ a = 45 ∨ a = 61) ∧ 1 ≤ k ∧ k ≤ 20) ∧ ¬ ty + k.toNat ≤ 60) ∧ u = σ)) : MQr σ u ∧ ∀ (b9 : Int) (y9 : St), ((((a = 43 ∨ a = 45 ∨ a = 61) ∧ 1 ≤ k ∧ k ≤ 20) ∧ ty + k.toNat ≤ 60 ∧ b9 = ((ty + k.toNat : Nat) : Int) ∧ y9 = tyM u a ty k.toNat) ∨ (¬ ((a = 43 ∨ a = 45 ∨ a = 61) ∧ 1 ≤ k ∧ k ≤ 20) ∧ y9 = sw u 89 0 1) ∨ (((a = 43 ∨ a = 45 ∨ a = 61) ∧ 1 ≤ k ∧ k ≤ 20) ∧ ¬ ty + k.toNat ≤ 60 ∧ y9 = sw u 89 0 2)) → y9.1 89 0 = z ∧ (z = 0 → y9.2.1 = b9) ∧ Nx y9 := by
  have hc := h.2.1
  have hG := h.1
  unfold JC at hc
  rcases hz with ⟨hz0, v, u1, ⟨c1, c2, hv, hu1⟩, hu⟩ | ⟨hz0, c1, hu⟩ | ⟨hz0, ⟨c1, c2⟩, hu⟩
  · have hG2 : RG (sw (tyS σ a ty (ty + k.toNat)) 0 5 ((ty + k.toNat : Nat) : Int)) := by
      refine RG.sw ?_ _ _ ⟨by omega, by omega⟩
      intro p q
      unfold tyS
      show R32 ((if p = 3 then (fun k1 => if ty ≤ k1 ∧ k1 < ty + k.toNat then a else σ.1 3 k1) else σ.1 p) q)
      split
      · show R32 (if ty ≤ q ∧ q < ty + k.toNat then a else σ.1 3 q)
        split
        · exact ⟨by omega, by omega⟩
        · exact hG 3 q
      · exact hG p q
    have hq : ∀ q, 89 ≤ q → (sw (tyS σ a ty (ty + k.toNat)) 0 5 ((ty + k.toNat : Nat) : Int)).1 q = σ.1 q := fun q h1 => by
      rw [sw_ne (by omega)]
      unfold tyS
      exact if_neg (by omega)
    subst hu1
    subst hu
    have f : MQr σ ((sw (tyS σ a ty (ty + k.toNat)) 0 5 ((ty + k.toNat : Nat) : Int)).1, v, (sw (tyS σ a ty (ty + k.toNat)) 0 5 ((ty + k.toNat : Nat) : Int)).2.2) := ⟨fun q h1 _ => hq q h1, hG2⟩
    refine ⟨f, fun b9 y9 hy => ?_⟩
    rcases hy with ⟨d1, d2, hb, hy⟩ | ⟨d1, hy⟩ | ⟨d1, d2, hy⟩
    · subst hy
      subst hz0
      refine ⟨rfl, fun _ => ?_, Nx.mk (h.p_type hac c1.2 c2) hU.u_type rfl⟩
      show v = b9
      omega
    · exfalso; omega
    · exfalso; omega
  · have hu := hu.symm
    subst hu
    refine ⟨MQr.rf hG σ.2, fun b9 y9 hy => ?_⟩
    rcases hy with ⟨d1, d2, hb, hy⟩ | ⟨d1, hy⟩ | ⟨d1, d2, hy⟩
    · skip
      exfalso; omega
    · skip
      subst hy
      subst hz0
      exact ⟨sw_e0, fun q => absurd q (by decide), Nx.code h hU σ.2 ⟨by decide, by decide⟩⟩
    · skip
      exfalso; omega
  · have hu := hu.symm
    subst hu
    refine ⟨MQr.rf hG σ.2, fun b9 y9 hy => ?_⟩
    rcases hy with ⟨d1, d2, hb, hy⟩ | ⟨d1, hy⟩ | ⟨d1, d2, hy⟩
    · skip
      exfalso; omega
    · skip
      exfalso; omega
    · skip
      subst hy
      subst hz0
      exact ⟨sw_e0, fun q => absurd q (by decide), Nx.code h hU σ.2 ⟨by decide, by decide⟩⟩
set_option maxHeartbeats 4000000 in
theorem q_penalty {σ u : St} {n ty R D : Nat} (a hh9 : Int) {z : Int} (h : JJ σ n ty R D) (hU : JU σ n) (hz : (z = 0 ∧ ∃ v u1, ((0 ≤ a ∧ a < σ.1 5 1) ∧ (0 ≤ hh9 ∧ hh9 ≤ 9999) ∧ v = σ.1 (7 + 2 * a.toNat) 8 ∧ u1 = sw σ (7 + 2 * a.toNat) 8 hh9) ∧ u = (u1.1, v, u1.2.2)) ∨ (z = 1 ∧ (¬ (0 ≤ a ∧ a < σ.1 5 1)) ∧ u = σ) ∨ (z = 2 ∧ ((0 ≤ a ∧ a < σ.1 5 1) ∧ ¬ (0 ≤ hh9 ∧ hh9 ≤ 9999)) ∧ u = σ)) : MQr σ u ∧ ∀ (b9 : Int) (y9 : St), (((0 ≤ a ∧ a < u.1 89 11) ∧ (0 ≤ hh9 ∧ hh9 ≤ 9999) ∧ b9 = u.1 100 a.toNat ∧ y9 = sw (sw u 89 0 0) 100 a.toNat hh9) ∨ (¬ (0 ≤ a ∧ a < u.1 89 11) ∧ y9 = sw u 89 0 1) ∨ ((0 ≤ a ∧ a < u.1 89 11) ∧ ¬ (0 ≤ hh9 ∧ hh9 ≤ 9999) ∧ y9 = sw u 89 0 2)) → y9.1 89 0 = z ∧ (z = 0 → y9.2.1 = b9) ∧ Nx y9 := by
  have hc := h.2.1
  have hG := h.1
  unfold JC at hc
  rcases hz with ⟨hz0, v, u1, ⟨c1, c2, hv, hu1⟩, hu⟩ | ⟨hz0, c1, hu⟩ | ⟨hz0, ⟨c1, c2⟩, hu⟩
  · have e := (h.je (a := a) (by omega)).1.2.2.2.2.2.2.2.1
    have hG2 : RG (sw σ (7 + 2 * a.toNat) 8 hh9) := hG.sw _ _ ⟨by omega, by omega⟩
    have hq : ∀ q, 89 ≤ q → (sw σ (7 + 2 * a.toNat) 8 hh9).1 q = σ.1 q := fun q h1 => sw_ne (by omega)
    subst hu1
    subst hu
    have f : MQr σ ((sw σ (7 + 2 * a.toNat) 8 hh9).1, v, (sw σ (7 + 2 * a.toNat) 8 hh9).2.2) := ⟨fun q h1 _ => hq q h1, hG2⟩
    refine ⟨f, fun b9 y9 hy => ?_⟩
    rw [f.1 89 (by decide) (by decide), f.1 100 (by decide) (by decide)] at hy
    rcases hy with ⟨d1, d2, hb, hy⟩ | ⟨d1, hy⟩ | ⟨d1, d2, hy⟩
    · subst hy
      subst hz0
      refine ⟨by rw [rd_n (by decide)]; exact sw_e0, fun _ => ?_, Nx.mk (h.p_penalty (by omega) c2) (hU.u_penalty (by omega)) rfl⟩
      show v = b9
      rw [hv, hb, e]
    · exfalso; omega
    · exfalso; omega
  · have hu := hu.symm
    subst hu
    refine ⟨MQr.rf hG σ.2, fun b9 y9 hy => ?_⟩
    rcases hy with ⟨d1, d2, hb, hy⟩ | ⟨d1, hy⟩ | ⟨d1, d2, hy⟩
    · skip
      exfalso; omega
    · skip
      subst hy
      subst hz0
      exact ⟨sw_e0, fun q => absurd q (by decide), Nx.code h hU σ.2 ⟨by decide, by decide⟩⟩
    · skip
      exfalso; omega
  · have hu := hu.symm
    subst hu
    refine ⟨MQr.rf hG σ.2, fun b9 y9 hy => ?_⟩
    rcases hy with ⟨d1, d2, hb, hy⟩ | ⟨d1, hy⟩ | ⟨d1, d2, hy⟩
    · skip
      exfalso; omega
    · skip
      exfalso; omega
    · skip
      subst hy
      subst hz0
      exact ⟨sw_e0, fun q => absurd q (by decide), Nx.code h hU σ.2 ⟨by decide, by decide⟩⟩
set_option maxHeartbeats 4000000 in
theorem q_round {σ u : St} {n ty R D : Nat} (a : Int) {z : Int} (h : JJ σ n ty R D) (hU : JU σ n) (ha : R32 a) (hz : (z = 0 ∧ ∃ v u1, ((0 ≤ a ∧ a < σ.1 0 1) ∧ R < 10 ∧ v = σ.1 67 1 ∧ u1 = opnF σ R a) ∧ u = (u1.1, v, u1.2.2)) ∨ (z = 1 ∧ (¬ (0 ≤ a ∧ a < σ.1 0 1)) ∧ u = σ) ∨ (z = 2 ∧ ((0 ≤ a ∧ a < σ.1 0 1) ∧ ¬ R < 10) ∧ u = σ)) : MQr σ u ∧ ∀ (b9 : Int) (y9 : St), (((0 ≤ a ∧ a < u.1 89 1) ∧ R < 10 ∧ b9 = u.1 89 23 ∧ y9 = rndM u R a) ∨ (¬ (0 ≤ a ∧ a < u.1 89 1) ∧ y9 = sw u 89 0 1) ∨ ((0 ≤ a ∧ a < u.1 89 1) ∧ ¬ R < 10 ∧ y9 = sw u 89 0 2)) → y9.1 89 0 = z ∧ (z = 0 → y9.2.1 = b9) ∧ Nx y9 := by
  have hc := h.2.1
  have hG := h.1
  unfold JC at hc
  rcases hz with ⟨hz0, v, u1, ⟨c1, c2, hv, hu1⟩, hu⟩ | ⟨hz0, c1, hu⟩ | ⟨hz0, ⟨c1, c2⟩, hu⟩
  · have hG2 : RG (opnF σ R a) := ((hG.sw _ _ ha).sw _ _ ⟨by omega, by omega⟩).sw _ _ ⟨by omega, by omega⟩
    have hq : ∀ q, 89 ≤ q → (opnF σ R a).1 q = σ.1 q := fun q h1 => by
      unfold opnF
      rw [sw_ne (by omega), sw_ne (by omega), sw_ne (by omega)]
    subst hu1
    subst hu
    have f : MQr σ ((opnF σ R a).1, v, (opnF σ R a).2.2) := ⟨fun q h1 _ => hq q h1, hG2⟩
    refine ⟨f, fun b9 y9 hy => ?_⟩
    rw [f.1 89 (by decide) (by decide)] at hy
    rcases hy with ⟨d1, d2, hb, hy⟩ | ⟨d1, hy⟩ | ⟨d1, d2, hy⟩
    · subst hy
      subst hz0
      refine ⟨?_, fun _ => ?_, Nx.mk (h.p_round ha c2) hU.u_round rfl⟩
      · rw [show (rndM ((opnF σ R a).1, v, (opnF σ R a).2.2) R a) = sw (sw (sw (sw _ 89 0 0) 108 R a) 89 23 _) 89 24 1 from rfl, rd_k (by decide), rd_k (by decide), rd_n (by decide)]
        exact sw_e0
      · show v = b9
        omega
    · exfalso; omega
    · exfalso; omega
  · have hu := hu.symm
    subst hu
    refine ⟨MQr.rf hG σ.2, fun b9 y9 hy => ?_⟩
    rcases hy with ⟨d1, d2, hb, hy⟩ | ⟨d1, hy⟩ | ⟨d1, d2, hy⟩
    · skip
      exfalso; omega
    · skip
      subst hy
      subst hz0
      exact ⟨sw_e0, fun q => absurd q (by decide), Nx.code h hU σ.2 ⟨by decide, by decide⟩⟩
    · skip
      exfalso; omega
  · have hu := hu.symm
    subst hu
    refine ⟨MQr.rf hG σ.2, fun b9 y9 hy => ?_⟩
    rcases hy with ⟨d1, d2, hb, hy⟩ | ⟨d1, hy⟩ | ⟨d1, d2, hy⟩
    · skip
      exfalso; omega
    · skip
      exfalso; omega
    · skip
      subst hy
      subst hz0
      exact ⟨sw_e0, fun q => absurd q (by decide), Nx.code h hU σ.2 ⟨by decide, by decide⟩⟩
set_option maxHeartbeats 4000000 in
theorem q_strike {σ u : St} {n ty R D : Nat} (a : Int) {z : Int} (h : JJ σ n ty R D) (hU : JU σ n) (hz : (z = 0 ∧ ∃ v u1, ((0 ≤ a ∧ a < σ.1 5 1) ∧ ¬ σ.1 (7 + 2 * a.toNat) 9 = 0 ∧ v = sumF (fun l => if (sw σ (7 + 2 * a.toNat) 9 0).1 (7 + 2 * l) 10 = a then 1 else 0) n ∧ u1 = mvF (sw σ (7 + 2 * a.toNat) 9 0) n a (σ.1 (7 + 2 * a.toNat) 10) n) ∧ u = (u1.1, v, u1.2.2)) ∨ (z = 1 ∧ (¬ (0 ≤ a ∧ a < σ.1 5 1)) ∧ u = σ) ∨ (z = 2 ∧ ((0 ≤ a ∧ a < σ.1 5 1) ∧ σ.1 (7 + 2 * a.toNat) 9 = 0) ∧ u = σ)) : MQr σ u ∧ ∀ (b9 : Int) (y9 : St), (((0 ≤ a ∧ a < u.1 89 11) ∧ u.1 107 a.toNat = 0 ∧ b9 = sumF (fun l => if u.1 106 l = a then 1 else 0) n ∧ y9 = mvM (skM u a.toNat) a (u.1 106 a.toNat) n) ∨ (¬ (0 ≤ a ∧ a < u.1 89 11) ∧ y9 = sw u 89 0 1) ∨ ((0 ≤ a ∧ a < u.1 89 11) ∧ ¬ u.1 107 a.toNat = 0 ∧ y9 = sw u 89 0 2)) → y9.1 89 0 = z ∧ (z = 0 → y9.2.1 = b9) ∧ Nx y9 := by
  have hc := h.2.1
  have hG := h.1
  unfold JC at hc
  rcases hz with ⟨hz0, v, u1, ⟨c1, c2, hv, hu1⟩, hu⟩ | ⟨hz0, c1, hu⟩ | ⟨hz0, ⟨c1, c2⟩, hu⟩
  · have e := (h.je (a := a) (by omega)).1.2.2.2.2.2.2.2.2.1
    have m := (h.je (a := a) (by omega)).2.1.2.2.2.2.2
    have ea : ((a.toNat : Nat) : Int) = a := by omega
    have hv7 : σ.1 107 a.toNat = 0 := by omega
    have hJ := h.p_strike (a := a.toNat) (by omega) hv7
    have hUs := hU.u_strike (a := a.toNat) (by omega)
    have e10 := (h.je (a := a) (by omega)).1.2.2.2.2.2.2.2.2.2.1
    have hst : stkP σ n a.toNat = mvM (skM (mvF (sw σ (7 + 2 * a.toNat) 9 0) n a (σ.1 (7 + 2 * a.toNat) 10) n) a.toNat) a (σ.1 106 a.toNat) n := by
      unfold stkP
      rw [ea]
    rw [hst] at hJ hUs
    have hn30 := h.n30
    have hq : ∀ q, 89 ≤ q → (mvF (sw σ (7 + 2 * a.toNat) 9 0) n a (σ.1 (7 + 2 * a.toNat) 10) n).1 q = σ.1 q := fun q h1 => by
      funext k
      rw [mvF_o (Or.inl (fun l hl => by omega)) n (Nat.le_refl n), rd_n (by omega)]
    have hG2 : RG (mvF (sw σ (7 + 2 * a.toNat) 9 0) n a (σ.1 (7 + 2 * a.toNat) 10) n) := by
      intro q k
      by_cases h8 : 89 ≤ q
      · rw [hq q h8]
        exact hG q k
      · have := hJ.1 q k
        rw [mvM_n (by omega)] at this
        unfold skM at this
        rw [rd_n (by omega), rd_n (by omega)] at this
        exact this
    have f : MQr σ u := by rw [hu, hu1]; exact ⟨fun q h1 _ => hq q h1, hG2⟩
    have hv2 : u.2.1 = v := by rw [hu]
    refine ⟨f, fun b9 y9 hy => ?_⟩
    rw [f.1 89 (by decide) (by decide), f.1 107 (by decide) (by decide), f.1 106 (by decide) (by decide)] at hy
    rcases hy with ⟨d1, d2, hb, hy⟩ | ⟨d1, hy⟩ | ⟨d1, d2, hy⟩
    · subst hz0
      refine ⟨?_, fun _ => ?_, Nx.mk hJ hUs ?_⟩
      · rw [hy, mvM_n (by decide)]
        show (sw (sw u 89 0 0) 107 a.toNat 1).1 89 0 = 0
        rw [rd_n (by decide)]
        exact sw_e0
      · rw [hy]
        show u.2.1 = b9
        rw [hv2, hv, hb]
        refine sumF_congr n (fun l hl => ?_)
        have e2 := (h.2.2.2.2.2.2.2 l hl).1.2.2.2.2.2.2.2.2.2.1
        rw [show (sw σ (7 + 2 * a.toNat) 9 0).1 (7 + 2 * l) 10 = σ.1 (7 + 2 * l) 10 from rd_k (by decide), e2]
      · rw [hy, hu, hu1]
        rfl
    · exfalso; omega
    · exfalso; omega
  · have hu := hu.symm
    subst hu
    refine ⟨MQr.rf hG σ.2, fun b9 y9 hy => ?_⟩
    rcases hy with ⟨d1, d2, hb, hy⟩ | ⟨d1, hy⟩ | ⟨d1, d2, hy⟩
    · skip
      exfalso; omega
    · skip
      subst hy
      subst hz0
      exact ⟨sw_e0, fun q => absurd q (by decide), Nx.code h hU σ.2 ⟨by decide, by decide⟩⟩
    · skip
      exfalso; omega
  · have hu := hu.symm
    subst hu
    have e := (h.je (a := a) (by omega)).1.2.2.2.2.2.2.2.2.1
    have m := (h.je (a := a) (by omega)).2.1.2.2.2.2.2
    refine ⟨MQr.rf hG σ.2, fun b9 y9 hy => ?_⟩
    rcases hy with ⟨d1, d2, hb, hy⟩ | ⟨d1, hy⟩ | ⟨d1, d2, hy⟩
    · skip
      exfalso; omega
    · skip
      exfalso; omega
    · skip
      subst hy
      subst hz0
      exact ⟨sw_e0, fun q => absurd q (by decide), Nx.code h hU σ.2 ⟨by decide, by decide⟩⟩
set_option maxHeartbeats 4000000 in
theorem q_giveBack {σ u : St} {n ty R D : Nat} (a : Int) {z : Int} (h : JJ σ n ty R D) (hU : JU σ n) (hz : (z = 0 ∧ ∃ v u1, ((0 ≤ a ∧ a < σ.1 5 1) ∧ σ.1 (7 + 2 * a.toNat) 9 = 0 ∧ v = sumF (fun l => if (sw σ (7 + 2 * a.toNat) 9 1).1 (7 + 2 * l) 9 = 0 then 0 else 1) n ∧ u1 = sw σ (7 + 2 * a.toNat) 9 1) ∧ u = (u1.1, v, u1.2.2)) ∨ (z = 1 ∧ (¬ (0 ≤ a ∧ a < σ.1 5 1)) ∧ u = σ) ∨ (z = 2 ∧ ((0 ≤ a ∧ a < σ.1 5 1) ∧ ¬ σ.1 (7 + 2 * a.toNat) 9 = 0) ∧ u = σ)) : MQr σ u ∧ ∀ (b9 : Int) (y9 : St), (((0 ≤ a ∧ a < u.1 89 11) ∧ ¬ u.1 107 a.toNat = 0 ∧ b9 = sumF (fun l => if (gbM u a.toNat).1 107 l = 0 then 1 else 0) n ∧ y9 = gbM u a.toNat) ∨ (¬ (0 ≤ a ∧ a < u.1 89 11) ∧ y9 = sw u 89 0 1) ∨ ((0 ≤ a ∧ a < u.1 89 11) ∧ u.1 107 a.toNat = 0 ∧ y9 = sw u 89 0 2)) → y9.1 89 0 = z ∧ (z = 0 → y9.2.1 = b9) ∧ Nx y9 := by
  have hc := h.2.1
  have hG := h.1
  unfold JC at hc
  rcases hz with ⟨hz0, v, u1, ⟨c1, c2, hv, hu1⟩, hu⟩ | ⟨hz0, c1, hu⟩ | ⟨hz0, ⟨c1, c2⟩, hu⟩
  · have e := (h.je (a := a) (by omega)).1.2.2.2.2.2.2.2.2.1
    have m := (h.je (a := a) (by omega)).2.1.2.2.2.2.2
    have hG2 : RG (sw σ (7 + 2 * a.toNat) 9 1) := hG.sw _ _ ⟨by decide, by decide⟩
    have hq : ∀ q, 89 ≤ q → (sw σ (7 + 2 * a.toNat) 9 1).1 q = σ.1 q := fun q h1 => sw_ne (by omega)
    have hJ := h.p_give (a := a.toNat) (by omega) (by omega)
    have hUs := hU.u_give (a := a.toNat) (by omega)
    subst hu1
    subst hu
    have f : MQr σ ((sw σ (7 + 2 * a.toNat) 9 1).1, v, (sw σ (7 + 2 * a.toNat) 9 1).2.2) := ⟨fun q h1 _ => hq q h1, hG2⟩
    refine ⟨f, fun b9 y9 hy => ?_⟩
    rw [f.1 89 (by decide) (by decide), f.1 107 (by decide) (by decide)] at hy
    rcases hy with ⟨d1, d2, hb, hy⟩ | ⟨d1, hy⟩ | ⟨d1, d2, hy⟩
    · subst hy
      subst hz0
      refine ⟨?_, fun _ => ?_, Nx.mk hJ hUs rfl⟩
      · rw [show (gbM ((sw σ (7 + 2 * a.toNat) 9 1).1, v, (sw σ (7 + 2 * a.toNat) 9 1).2.2) a.toNat) = sw (sw _ 89 0 0) 107 a.toNat 0 from rfl, rd_n (by decide)]
        exact sw_e0
      · show v = b9
        rw [hv, hb]
        refine sumF_congr n (fun l hl => ?_)
        have el := (hJ.2.2.2.2.2.2.2 l hl).1.2.2.2.2.2.2.2.2.1
        have ml := (hJ.2.2.2.2.2.2.2 l hl).2.1.2.2.2.2.2
        have g1 : (sw (sw (sw σ (7 + 2 * a.toNat) 9 1) 89 0 0) 107 a.toNat 0).1 (7 + 2 * l) 9 = (sw σ (7 + 2 * a.toNat) 9 1).1 (7 + 2 * l) 9 := by rw [rd_n (by have := h.n30; omega), rd_n (by have := h.n30; omega)]
        have g2 : (gbM ((sw σ (7 + 2 * a.toNat) 9 1).1, v, (sw σ (7 + 2 * a.toNat) 9 1).2.2) a.toNat).1 107 l = (sw (sw (sw σ (7 + 2 * a.toNat) 9 1) 89 0 0) 107 a.toNat 0).1 107 l := rfl
        rw [g2, ← g1, el]
        split <;> split <;> omega
    · exfalso; omega
    · exfalso; omega
  · have hu := hu.symm
    subst hu
    refine ⟨MQr.rf hG σ.2, fun b9 y9 hy => ?_⟩
    rcases hy with ⟨d1, d2, hb, hy⟩ | ⟨d1, hy⟩ | ⟨d1, d2, hy⟩
    · skip
      exfalso; omega
    · skip
      subst hy
      subst hz0
      exact ⟨sw_e0, fun q => absurd q (by decide), Nx.code h hU σ.2 ⟨by decide, by decide⟩⟩
    · skip
      exfalso; omega
  · have hu := hu.symm
    subst hu
    have e := (h.je (a := a) (by omega)).1.2.2.2.2.2.2.2.2.1
    have m := (h.je (a := a) (by omega)).2.1.2.2.2.2.2
    refine ⟨MQr.rf hG σ.2, fun b9 y9 hy => ?_⟩
    rcases hy with ⟨d1, d2, hb, hy⟩ | ⟨d1, hy⟩ | ⟨d1, d2, hy⟩
    · skip
      exfalso; omega
    · skip
      exfalso; omega
    · skip
      subst hy
      subst hz0
      exact ⟨sw_e0, fun q => absurd q (by decide), Nx.code h hU σ.2 ⟨by decide, by decide⟩⟩
set_option maxHeartbeats 4000000 in
theorem q_shut {σ u : St} {n ty R D : Nat} {z : Int} (h : JJ σ n ty R D) (hU : JU σ n) (hz : (z = 0 ∧ ∃ v u1, (¬ σ.1 67 2 = -1 ∧ v = σ.1 67 2 ∧ u1 = sw σ 67 2 (-1)) ∧ u = (u1.1, v, u1.2.2)) ∨ (z = 1 ∧ (σ.1 67 2 = -1 ∧ u = σ))) : MQr σ u ∧ ∀ (b9 : Int) (y9 : St), ((¬ u.1 89 24 = 0 ∧ b9 = u.1 89 23 - 1 ∧ y9 = sw (sw u 89 0 0) 89 24 0) ∨ (u.1 89 24 = 0 ∧ y9 = sw u 89 0 1)) → y9.1 89 0 = z ∧ (z = 0 → y9.2.1 = b9) ∧ Nx y9 := by
  have hc := h.2.1
  have hG := h.1
  unfold JC at hc
  rcases hz with ⟨hz0, v, u1, ⟨c1, hv, hu1⟩, hu⟩ | ⟨hz0, c1, hu⟩
  · have hG2 : RG (sw σ 67 2 (-1)) := hG.sw _ _ ⟨by decide, by decide⟩
    have hJ := h.p_shut c1
    subst hu1
    subst hu
    have f : MQr σ ((sw σ 67 2 (-1)).1, v, (sw σ 67 2 (-1)).2.2) := ⟨fun q h1 _ => sw_ne (by omega), hG2⟩
    refine ⟨f, fun b9 y9 hy => ?_⟩
    rw [f.1 89 (by decide) (by decide)] at hy
    rcases hy with ⟨d1, hb, hy⟩ | ⟨d1, hy⟩
    · subst hy
      subst hz0
      refine ⟨by rw [rd_k (by decide)]; exact sw_e0, fun _ => ?_, Nx.mk hJ hU.u_shut rfl⟩
      show v = b9
      omega
    · exfalso; omega
  · have hu := hu.symm
    subst hu
    refine ⟨MQr.rf hG σ.2, fun b9 y9 hy => ?_⟩
    rcases hy with ⟨d1, hb, hy⟩ | ⟨d1, hy⟩
    · skip
      exfalso; omega
    · skip
      subst hy
      subst hz0
      exact ⟨sw_e0, fun q => absurd q (by decide), Nx.code h hU σ.2 ⟨by decide, by decide⟩⟩
set_option maxHeartbeats 4000000 in
theorem q_drop {σ u : St} {n ty R D : Nat} (a : Int) {z : Int} (h : JJ σ n ty R D) (hU : JU σ n) (hz : (z = 0 ∧ ∃ v u1, ((0 ≤ a ∧ a ≤ 3) ∧ v = σ.1 67 3 ∧ u1 = sw σ 67 3 a) ∧ u = (u1.1, v, u1.2.2)) ∨ (z = 1 ∧ (¬ (0 ≤ a ∧ a ≤ 3) ∧ u = σ))) : MQr σ u ∧ ∀ (b9 : Int) (y9 : St), (((0 ≤ a ∧ a ≤ 3) ∧ b9 = u.1 89 26 ∧ y9 = sw (sw u 89 0 0) 89 26 a) ∨ (¬ (0 ≤ a ∧ a ≤ 3) ∧ y9 = sw u 89 0 1)) → y9.1 89 0 = z ∧ (z = 0 → y9.2.1 = b9) ∧ Nx y9 := by
  have hc := h.2.1
  have hG := h.1
  unfold JC at hc
  rcases hz with ⟨hz0, v, u1, ⟨c1, hv, hu1⟩, hu⟩ | ⟨hz0, c1, hu⟩
  · have hG2 : RG (sw σ 67 3 a) := hG.sw _ _ ⟨by omega, by omega⟩
    have hJ := h.p_drop c1
    subst hu1
    subst hu
    have f : MQr σ ((sw σ 67 3 a).1, v, (sw σ 67 3 a).2.2) := ⟨fun q h1 _ => sw_ne (by omega), hG2⟩
    refine ⟨f, fun b9 y9 hy => ?_⟩
    rw [f.1 89 (by decide) (by decide)] at hy
    rcases hy with ⟨d1, hb, hy⟩ | ⟨d1, hy⟩
    · subst hy
      subst hz0
      refine ⟨by rw [rd_k (by decide)]; exact sw_e0, fun _ => ?_, Nx.mk hJ hU.u_drop rfl⟩
      show v = b9
      omega
    · exfalso; omega
  · have hu := hu.symm
    subst hu
    refine ⟨MQr.rf hG σ.2, fun b9 y9 hy => ?_⟩
    rcases hy with ⟨d1, hb, hy⟩ | ⟨d1, hy⟩
    · skip
      exfalso; omega
    · skip
      subst hy
      subst hz0
      exact ⟨sw_e0, fun q => absurd q (by decide), Nx.code h hU σ.2 ⟨by decide, by decide⟩⟩
