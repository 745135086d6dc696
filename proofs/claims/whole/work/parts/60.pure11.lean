/-! ===== small: scratch, rows to come, the reference's rows behind a call of the class ===== -/
theorem EqS.rf {σ : St} (h : RG σ) : EqS σ σ := ⟨fun _ _ _ => rfl, h⟩
theorem EqS.tr {σ u v : St} (h : EqS σ u) (h2 : EqS u v) : EqS σ v := ⟨fun a k q => (h2.1 a k q).trans (h.1 a k q), h2.2⟩
theorem EqS.out {σ : St} (h : RG σ) (x : Int × UInt64) : EqS σ (σ.1, x) := ⟨fun _ _ _ => rfl, h⟩
theorem EqS.code {σ : St} (h : RG σ) {v : Int} (hv : R32 v) : EqS σ (sw σ 89 0 v) := ⟨fun a k q => by
  rw [sw_get, if_neg]
  rintro ⟨rfl, rfl⟩
  exact q (by unfold scr; omega), h.sw _ _ hv⟩
theorem FrR.eqS {σ u : St} (f : FrR σ u) : EqS σ u := ⟨fun a k q => by rw [f.1 a (by unfold scr at q; omega)], f.2.2⟩
theorem FrS.eqS {σ u : St} (f : FrS σ u) : EqS σ u := ⟨fun a k q => by rw [f.1 a (by unfold scr at q; omega)], f.2.2⟩
theorem FrM.eqS {σ u : St} (f : FrM σ u) : EqS σ u := ⟨fun a k q => by
  unfold scr at q
  by_cases e : a = 89
  · subst e
    exact f.2.1 k (by omega) (by omega)
  · rw [f.1 a e (by omega)], f.2.2.2⟩
theorem JU.of {σ u : St} {n : Nat} (h : JU σ n) (e : ∀ l, n ≤ l → l < 30 → u.1 (7 + 2 * l) 8 = σ.1 (7 + 2 * l) 8 ∧ u.1 100 l = σ.1 100 l ∧ u.1 107 l = σ.1 107 l) : JU u n := fun l h1 h2 => by
  obtain ⟨a, b, c⟩ := e l h1 h2
  rw [a, b, c]
  exact h l h1 h2
theorem JU.eqS {σ u : St} {n : Nat} (h : JU σ n) (f : EqS σ u) : JU u n := h.of fun l h1 h2 => ⟨f.1 _ _ (by unfold scr; omega), f.1 _ _ (by unfold scr; omega), f.1 _ _ (by unfold scr; omega)⟩
/-- the reference's rows are the same -/
def MQr (σ y : St) : Prop := (∀ q, 89 ≤ q → q < 110 → y.1 q = σ.1 q) ∧ RG y
theorem MQr.TM {σ y : St} (f : MQr σ y) (h : TM σ) : TM y := h.of (f.1 90 (by decide) (by decide)) (f.1 91 (by decide) (by decide)) (f.1 92 (by decide) (by decide))
theorem MQr.CM {σ y : St} (f : MQr σ y) (h : CM σ) : CM y := h.of (f.1 93 (by decide) (by decide)) (f.1 94 (by decide) (by decide)) (f.1 95 (by decide) (by decide))
theorem MQr.ride {σ y : St} (f : MQr σ y) (t c : Nat) : rideM y t c = rideM σ t c ∧ lenM y t = lenM σ t := rideM_rows (f.1 90 (by decide) (by decide)) (f.1 91 (by decide) (by decide)) (f.1 92 (by decide) (by decide)) (f.1 93 (by decide) (by decide)) (f.1 94 (by decide) (by decide)) (f.1 95 (by decide) (by decide))
theorem MQr.PM {σ y : St} (f : MQr σ y) (h : PM σ) : PM y := fun t ht h0 => by
  rw [f.1 90 (by decide) (by decide)] at h0
  rw [(f.ride t 0).2]
  exact h t ht h0
theorem MQr.MB {σ y : St} {n : Nat} (f : MQr σ y) (h : MB σ n) : MB y n := by
  refine ⟨by rw [f.1 89 (by decide) (by decide)]; exact h.1, h.2.1, fun l hl => ?_⟩
  have := h.2.2 l hl
  unfold MR at this ⊢
  rw [f.1 98 (by decide) (by decide), f.1 99 (by decide) (by decide), f.1 100 (by decide) (by decide), f.1 104 (by decide) (by decide), f.1 106 (by decide) (by decide), f.1 107 (by decide) (by decide)]
  exact this
theorem MQr.MD {σ y : St} {n : Nat} {D : Nat → Int} (f : MQr σ y) (h : MD σ n D) : MD y n D := h.of (f.1 106 (by decide) (by decide))
/-! rows to come, by call -/
theorem JU.u_track {σ : St} {n : Nat} {a b : Int} (h : JU σ n) : JU (sw (sw (sw σ 0 1 a) 89 0 0) 89 1 b) n := h.of fun l h1 h2 => ⟨by rw [rd_n (by omega), rd_n (by omega), rd_n (by omega)], by rw [rd_n (by decide), rd_n (by decide), rd_n (by decide)], by rw [rd_n (by decide), rd_n (by decide), rd_n (by decide)]⟩
theorem JU.u_wipe {σ : St} {n : Nat} (h : JU σ n) : JU (sw (sw (sw σ 0 5 0) 89 0 0) 89 9 0) n := h.of fun l h1 h2 => ⟨by rw [rd_n (by omega), rd_n (by omega), rd_n (by omega)], by rw [rd_n (by decide), rd_n (by decide), rd_n (by decide)], by rw [rd_n (by decide), rd_n (by decide), rd_n (by decide)]⟩
theorem JU.u_drop {σ : St} {n : Nat} {a : Int} (h : JU σ n) : JU (sw (sw (sw σ 67 3 a) 89 0 0) 89 26 a) n := h.of fun l h1 h2 => ⟨by rw [rd_n (by omega), rd_n (by omega), rd_n (by omega)], by rw [rd_n (by decide), rd_n (by decide), rd_n (by decide)], by rw [rd_n (by decide), rd_n (by decide), rd_n (by decide)]⟩
theorem JU.u_shut {σ : St} {n : Nat} (h : JU σ n) : JU (sw (sw (sw σ 67 2 (-1)) 89 0 0) 89 24 0) n := h.of fun l h1 h2 => ⟨by rw [rd_n (by omega), rd_n (by omega), rd_n (by omega)], by rw [rd_n (by decide), rd_n (by decide), rd_n (by decide)], by rw [rd_n (by decide), rd_n (by decide), rd_n (by decide)]⟩
theorem JU.u_penalty {σ : St} {n a : Nat} {v : Int} (h : JU σ n) (ha : a < n) : JU (sw (sw (sw σ (7 + 2 * a) 8 v) 89 0 0) 100 a v) n := h.of fun l h1 h2 => ⟨by rw [rd_n (by omega), rd_n (by omega), rd_n (by omega)], by rw [rd_k (by omega), rd_n (by decide), rd_n (by omega)], by rw [rd_n (by decide), rd_n (by decide), rd_n (by omega)]⟩
theorem JU.u_give {σ : St} {n a : Nat} (h : JU σ n) (ha : a < n) : JU (sw (sw (sw σ (7 + 2 * a) 9 1) 89 0 0) 107 a 0) n := h.of fun l h1 h2 => ⟨by rw [rd_n (by omega), rd_n (by omega), rd_n (by omega)], by rw [rd_n (by decide), rd_n (by decide), rd_n (by omega)], by rw [rd_k (by omega), rd_n (by decide), rd_n (by omega)]⟩
theorem JU.u_round {σ : St} {n R : Nat} {a : Int} (h : JU σ n) : JU (rndM (opnF σ R a) R a) n := by
  refine h.of fun l h1 h2 => ?_
  have k : ∀ q, q ≠ 89 → q ≠ 108 → q ≠ 67 → q ≠ 68 → (rndM (opnF σ R a) R a).1 q = σ.1 q := fun q a1 a2 a3 a4 => by
    unfold rndM opnF
    rw [sw_ne a1, sw_ne a1, sw_ne a2, sw_ne a1, sw_ne a3, sw_ne a3, sw_ne a4]
  rw [k _ (by omega) (by omega) (by omega) (by omega), k 100 (by decide) (by decide) (by decide) (by decide), k 107 (by decide) (by decide) (by decide) (by decide)]
  exact ⟨rfl, rfl, rfl⟩
theorem JU.u_type {σ : St} {n ty m : Nat} {a v : Int} (h : JU σ n) : JU (tyM (sw (tyS σ a ty (ty + m)) 0 5 v) a ty m) n := by
  refine h.of fun l h1 h2 => ?_
  have k : ∀ q, q ≠ 0 → q ≠ 3 → q ≠ 96 → q ≠ 89 → (tyM (sw (tyS σ a ty (ty + m)) 0 5 v) a ty m).1 q = σ.1 q := fun q a1 a2 a3 a4 => by
    simp only [tyM, if_neg a3, if_neg a4]
    rw [sw_ne a1]
    simp [tyS, a2]
  rw [k _ (by omega) (by omega) (by omega) (by omega), k 100 (by decide) (by decide) (by decide) (by decide), k 107 (by decide) (by decide) (by decide) (by decide)]
  exact ⟨rfl, rfl, rfl⟩
theorem JU.u_car {σ : St} {n c0 : Nat} {a b d : Int} (h : JU σ n) (hc : c0 < 4) : JU (carM (carF σ c0 a b d) c0 a b d) n := by
  refine h.of fun l h1 h2 => ?_
  have k : ∀ q, q ≠ 85 + c0 → q ≠ 0 → q ≠ 89 → q ≠ 93 → q ≠ 94 → q ≠ 95 → (carM (carF σ c0 a b d) c0 a b d).1 q = σ.1 q := fun q h1 h2 h3 h4 h5 h6 => by
    unfold carM carF
    rw [sw_ne h3, sw_ne h6, sw_ne h5, sw_ne h4, sw_ne h3, sw_ne h2, sw_ne h1, sw_ne h1, sw_ne h1]
  rw [k _ (by omega) (by omega) (by omega) (by omega) (by omega) (by omega), k 100 (by omega) (by decide) (by decide) (by decide) (by decide) (by decide), k 107 (by omega) (by decide) (by decide) (by decide) (by decide) (by decide)]
  exact ⟨rfl, rfl, rfl⟩
theorem JU.u_stretch {σ : St} {n t k2 k : Nat} {len lim : Int} (h : JU σ n) (ht : t < 4) : JU (strM (appF σ t k2 len lim) t k len lim) n := by
  refine h.of fun l h1 h2 => ?_
  have key : ∀ q, q ≠ 73 + 3 * t → q ≠ 73 + 3 * t + 1 → q ≠ 73 + 3 * t + 2 → q ≠ 89 → q ≠ 90 → q ≠ 91 → q ≠ 92 → (strM (appF σ t k2 len lim) t k len lim).1 q = σ.1 q := fun q h1 h2 h3 h4 h5 h6 h7 => by
    unfold strM appF
    rw [sw_ne h5, sw_ne h7, sw_ne h6, sw_ne h4, sw_ne h1, sw_ne h3, sw_ne h2, sw_ne h1]
  rw [key _ (by omega) (by omega) (by omega) (by omega) (by omega) (by omega) (by omega), key 100 (by omega) (by omega) (by omega) (by decide) (by decide) (by decide) (by decide), key 107 (by omega) (by omega) (by omega) (by decide) (by decide) (by decide) (by decide)]
  exact ⟨rfl, rfl, rfl⟩
theorem JU.u_strike {σ : St} {n a : Nat} (h : JU σ n) (ha : a < n) : JU (stkP σ n a) n := by
  refine h.of fun l h1 h2 => ?_
  have k : ∀ q, q ≠ 106 → q ≠ 107 → q ≠ 89 → ∀ j, j ≠ 9 → ((∀ l, l < n → q ≠ 7 + 2 * l) ∨ (j ≠ 10 ∧ j ≠ 11 ∧ j ≠ 12)) → (stkP σ n a).1 q j = σ.1 q j := fun q a1 a2 a3 j hj hq => by
    unfold stkP
    rw [mvM_n a1]
    unfold skM
    rw [sw_ne a2, sw_ne a3, mvF_o hq n (Nat.le_refl n), rd_k hj]
  refine ⟨k _ (by omega) (by omega) (by omega) 8 (by decide) (Or.inr ⟨by decide, by decide, by decide⟩), ?_, ?_⟩
  · by_cases e : l = 9
    · unfold stkP
      rw [mvM_n (by decide)]
      unfold skM
      rw [rd_n (by decide), rd_n (by decide), mvF_o (Or.inl (fun l _ => by omega)) n (Nat.le_refl n), rd_n (by omega)]
    · unfold stkP
      rw [mvM_n (by decide)]
      unfold skM
      rw [rd_n (by decide), rd_n (by decide), mvF_o (Or.inl (fun l _ => by omega)) n (Nat.le_refl n), rd_n (by omega)]
  · unfold stkP
    rw [mvM_n (by decide)]
    unfold skM
    rw [rd_k (by omega), rd_n (by decide), mvF_o (Or.inl (fun l _ => by omega)) n (Nat.le_refl n), rd_n (by omega)]
