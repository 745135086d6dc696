/-! ===== the reference: tracks, cars, inputs ===== -/
def lenRow (σ : St) (t : Nat) : Nat → Int := fun k => σ.1 91 (12 * t + k)
def lenM (σ : St) (t : Nat) : Int := sumF (lenRow σ t) (σ.1 90 t).toNat
def limM (σ : St) (t : Nat) (p : Int) : Int := limG (fun i => sumF (lenRow σ t) (i + 1)) (fun i => σ.1 92 (12 * t + i)) p 0 (σ.1 90 t).toNat
/-- the reference's tracks -/
def TM (σ : St) : Prop := (∀ t, t < 4 → 0 ≤ σ.1 90 t ∧ σ.1 90 t ≤ 12) ∧ ∀ k, k < 48 → (0 ≤ σ.1 91 k ∧ σ.1 91 k ≤ 30) ∧ 0 ≤ σ.1 92 k ∧ σ.1 92 k ≤ 9
theorem sumF_b2 {f : Nat → Int} {c : Int} {m : Nat} (hf : ∀ l, l < m → 0 ≤ f l ∧ f l ≤ c) : ∀ i : Nat, i ≤ m → 0 ≤ sumF f i ∧ sumF f i ≤ c * i := by
  intro i
  induction i with
  | zero => intro _; simp [sumF]
  | succ i ih =>
    intro hi
    have := hf i (by omega)
    have := ih (by omega)
    rw [sumF]
    refine ⟨by omega, ?_⟩
    rw [show ((i + 1 : Nat) : Int) = (i : Int) + 1 by omega, Int.mul_add]
    omega
theorem TM.row {σ : St} (h : TM σ) {t : Nat} (ht : t < 4) : ∀ k, k < 12 → 0 ≤ lenRow σ t k ∧ lenRow σ t k ≤ 30 := fun k hk => (h.2 (12 * t + k) (by omega)).1
theorem limK {E L : Nat → Int} {p : Int} {K : Nat} : ∀ d i, i + d = K → (∃ k, i ≤ k ∧ k < K ∧ p < E k) → ∃ k, i ≤ k ∧ k < K ∧ (∀ j, i ≤ j → j < k → ¬ p < E j) ∧ p < E k ∧ limG E L p i d = L k := by
  intro d
  induction d with
  | zero =>
    intro i hi ⟨k, h1, h2, h3⟩
    omega
  | succ d ih =>
    intro i hi h
    by_cases q : p < E i
    · exact ⟨i, Nat.le_refl _, by omega, fun j h1 h2 => absurd h2 (by omega), q, by rw [limG, if_pos q]⟩
    · obtain ⟨k, h1, h2, h3⟩ := h
      have hk : i + 1 ≤ k := by
        rcases Nat.lt_or_ge i k with a | a
        · exact a
        · have e : i = k := by omega
          subst e
          exact absurd h3 q
      obtain ⟨k2, g1, g2, g3, g4, g5⟩ := ih (i + 1) (by omega) ⟨k, hk, h2, h3⟩
      refine ⟨k2, by omega, g2, fun j h1 h2 => ?_, g4, by rw [limG, if_neg q]; exact g5⟩
      by_cases e : j = i
      · subst e; exact q
      · exact g3 j (by omega) h2
/-- where a place lies -/
theorem limM_at {σ : St} {t : Nat} {p : Int} (hp : 0 ≤ p) (hl : p < lenM σ t) : ∃ k, k < (σ.1 90 t).toNat ∧ (∀ j, j < k → sumF (lenRow σ t) j + σ.1 91 (12 * t + j) ≤ p) ∧ p < sumF (lenRow σ t) k + σ.1 91 (12 * t + k) ∧ limM σ t p = σ.1 92 (12 * t + k) := by
  unfold lenM at hl
  have h0 : (σ.1 90 t).toNat ≠ 0 := by
    intro e
    rw [e] at hl
    have : sumF (lenRow σ t) 0 = 0 := rfl
    omega
  obtain ⟨k, h1, h2, h3, h4, h5⟩ := limK (E := fun i => sumF (lenRow σ t) (i + 1)) (L := fun i => σ.1 92 (12 * t + i)) (p := p) (K := (σ.1 90 t).toNat) (σ.1 90 t).toNat 0 (by omega) ⟨(σ.1 90 t).toNat - 1, by omega, by omega, by show p < sumF _ _; rw [show (σ.1 90 t).toNat - 1 + 1 = (σ.1 90 t).toNat by omega]; exact hl⟩
  refine ⟨k, h2, fun j hj => ?_, h4, h5⟩
  have h6 : ¬ p < sumF (lenRow σ t) (j + 1) := h3 j (by omega) hj
  have e : sumF (lenRow σ t) (j + 1) = sumF (lenRow σ t) j + σ.1 91 (12 * t + j) := rfl
  omega
def drvM (σ : St) (a : Int) : Nat → Int
  | 0 => 0
  | i + 1 => if σ.1 102 i = a then 1 else drvM σ a i
theorem drvM_b {σ : St} {a : Int} : ∀ i, drvM σ a i = 0 ∨ drvM σ a i = 1 := by
  intro i
  induction i with
  | zero => exact Or.inl rfl
  | succ i ih =>
    rw [drvM]
    split
    · exact Or.inr rfl
    · exact ih
def strM (σ : St) (t k : Nat) (len lim : Int) : St := sw (sw (sw (sw σ 89 0 0) 91 (12 * t + k) len) 92 (12 * t + k) lim) 90 t (σ.1 90 t + 1)
theorem TM.str {σ : St} {t k : Nat} {len lim : Int} (h : TM σ) (hk : σ.1 90 t = (k : Int)) (hk12 : k < 12) (ht : t < 4) (h1 : 1 ≤ len ∧ len ≤ 30) (h2 : 1 ≤ lim ∧ lim ≤ 9) : TM (strM σ t k len lim) := by
  unfold strM
  refine ⟨fun u hu => ?_, fun j hj => ⟨?_, ?_⟩⟩
  · by_cases e : u = t
    · subst e; rw [rd_s]; omega
    · rw [rd_k e, rd_n (by decide), rd_n (by decide), rd_n (by decide)]; exact h.1 u hu
  · rw [rd_n (by decide), rd_n (by decide)]
    by_cases e : j = 12 * t + k
    · subst e; rw [rd_s]; omega
    · rw [rd_k e, rd_n (by decide)]; exact (h.2 j hj).1
  · rw [rd_n (by decide)]
    by_cases e : j = 12 * t + k
    · subst e; rw [rd_s]; omega
    · rw [rd_k e, rd_n (by decide), rd_n (by decide)]; exact (h.2 j hj).2
def carM (σ : St) (c : Nat) (a b d : Int) : St := sw (sw (sw (sw (sw σ 89 0 0) 93 c a) 94 c b) 95 c d) 89 5 (σ.1 89 5 + 1)
def tyM (σ : St) (c : Int) (ty i : Nat) : St := (fun b => if b = 96 then (fun k => if ty ≤ k ∧ k < ty + i then c else σ.1 96 k) else if b = 89 then ur (ur (σ.1 89) 0 0) 9 (ty + i : Nat) else σ.1 b, σ.2)
theorem tyM_0 {σ : St} {c : Int} {ty : Nat} (h : σ.1 89 9 = (ty : Int)) : sw σ 89 0 0 = tyM σ c ty 0 := by
  unfold tyM sw
  congr 1
  funext b
  by_cases h1 : b = 96
  · subst h1
    funext k
    simp
    intro a c
    omega
  · by_cases h2 : b = 89
    · subst h2
      funext k
      simp [ur]
      by_cases h3 : k = 9
      · subst h3; simp [h]
      · simp [h3]
    · simp [h1, h2]
theorem tyM_s {σ : St} {c : Int} {ty i : Nat} : sw (sw (tyM σ c ty i) 96 (ty + i) c) 89 9 ((ty + (i + 1) : Nat) : Int) = tyM σ c ty (i + 1) := by
  unfold tyM sw
  simp only
  congr 1
  funext b
  by_cases h1 : b = 96
  · subst h1
    funext k
    simp [ur]
    by_cases h3 : k = ty + i
    · subst h3
      rw [if_pos rfl, if_pos (by omega)]
    · rw [if_neg h3]
      by_cases h4 : ty ≤ k ∧ k < ty + i
      · rw [if_pos h4, if_pos (by omega)]
      · rw [if_neg h4, if_neg (by omega)]
  · by_cases h2 : b = 89
    · subst h2
      funext k
      simp [ur]
      by_cases h3 : k = 9
      · subst h3; simp
      · simp [h3]
    · simp [h1, h2]
theorem tyM_9 {σ : St} {c : Int} {ty i : Nat} : (tyM σ c ty i).1 89 9 = ((ty + i : Nat) : Int) := by simp [tyM, ur]
theorem tyM_RG {σ : St} {c : Int} {ty i : Nat} (h : RG σ) (hc : R32 c) (ht : ty + i ≤ 60) : RG (tyM σ c ty i) := by
  intro a k
  by_cases e : a = 96
  · subst e
    simp only [tyM, if_true]
    split
    · exact hc
    · exact h _ _
  · by_cases e2 : a = 89
    · subst e2
      show R32 (if k = 9 then _ else if k = 0 then 0 else σ.1 89 k)
      split
      · exact ⟨by omega, by omega⟩
      · split
        · exact ⟨by decide, by decide⟩
        · exact h _ _
    · simp only [tyM, if_neg e, if_neg e2]
      exact h _ _

theorem TM.code {σ : St} (h : TM σ) {k : Nat} {v : Int} : TM (sw σ 89 k v) := h
theorem lenM_b {σ : St} (h : TM σ) {t : Nat} (ht : t < 4) : 0 ≤ lenM σ t ∧ lenM σ t ≤ 360 := by
  have hk := h.1 t ht
  have := sumF_b2 (f := lenRow σ t) (c := 30) (m := 12) (h.row ht) (σ.1 90 t).toNat (by omega)
  unfold lenM
  omega

set_option maxRecDepth 100000 in
set_option maxHeartbeats 4000000 in
theorem m_X7_thrown (g : Geo) (l : Launch) (hl9 : l.stackTraces = false) (σ : St) (hR : RG σ) : Met l yX7_thrown wsX7_thrown ({ frames := 0, cells := 0, slots := 0, locals := 0 }) (va_Pc [.ref (ga g (89))] (World g σ)) (QI g (fun z u => z = σ.1 89 0 ∧ u = σ)) 0 0 (gA g) := by
  refine V_met hl9 (by decide) rfl (Nat.le_of_ble_eq_true rfl) ?_
  intro p9 e9 s9 m9 b9 t9 c9 X hr _
  refine V_lv (lv' := [(0, .ref (ga g (89)))]) rfl ?_
  refine V_aload_n X 0 rfl dX7_thrown_0 rfl ?_
  refine V_get X (ci := 7) (89) (by decide) (rfl) (by decide) rfl (fun _ h => List.mem_cons_of_mem _ (List.mem_append_right _ h)) 0 (by decide) (List.mem_of_getElem? (i := 1) rfl) rfl rfl dX7_thrown_1 ?_
  exact V_iret X hr rfl (hR _ _) (by exact ⟨rfl, rfl⟩) dX7_thrown_4 (by decide) (by decide)
set_option maxRecDepth 100000 in
set_option maxHeartbeats 4000000 in
theorem m_X7_fails (g : Geo) (l : Launch) (hl9 : l.stackTraces = false) (σ : St) (hR : RG σ) (p : Int) (hp : R32 p) : Met l yX7_fails wsX7_fails ({ frames := 0, cells := 0, slots := 0, locals := 0 }) (va_Pc [.ref (ga g (89)), .int (iN (p))] (World g σ)) (QI g (fun z u => z = (if 0 < p then 1 else 0) ∧ u = sw σ 89 0 p)) 0 0 (gA g) := by
  refine V_met hl9 (by decide) rfl (Nat.le_of_ble_eq_true rfl) ?_
  intro p9 e9 s9 m9 b9 t9 c9 X hr _
  refine V_lv (lv' := [(0, .ref (ga g (89))), (1, .int (iN (p)))]) rfl ?_
  refine V_aload_n X 0 rfl dX7_fails_0 rfl ?_
  refine V_iload_n X 1 rfl dX7_fails_1 rfl ?_
  refine V_put X (ci := 7) (89) (by decide) (rfl) (by decide) rfl (fun _ h => List.mem_cons_of_mem _ (List.mem_append_right _ h)) 0 (by decide) (List.mem_of_getElem? (i := 1) rfl) rfl tyX7 tyX7_ok nmX7 rfl rfl rfl rfl rfl (Nat.le_of_ble_eq_true rfl) dX7_fails_2 ?_
  refine V_iload_n X 1 rfl dX7_fails_5 rfl ?_
  refine V_if_le X 13 hp dX7_fails_6 (by decide) (fun q1 => ?_) (fun q1 => ?_)
  · skip
    refine V_iconst X dX7_fails_13 ?_
    exact V_iret X hr (iN_bool (Or.inl rfl)).1 ⟨by decide, by decide⟩ (by exact ⟨by rw [if_neg (by omega)], rfl⟩) dX7_fails_14 (by decide) (by decide)
  · skip
    refine V_iconst X dX7_fails_9 ?_
    refine V_goto X 14 dX7_fails_10 (by decide) ?_
    exact V_iret X hr (iN_bool (Or.inr rfl)).1 ⟨by decide, by decide⟩ (by exact ⟨by rw [if_pos (by omega)], rfl⟩) dX7_fails_14 (by decide) (by decide)
set_option maxRecDepth 100000 in
set_option maxHeartbeats 4000000 in
theorem m_X7_in (g : Geo) (l : Launch) (hl9 : l.stackTraces = false) (σ : St) (a b d : Int) (ha : R32 a) (hb : R32 b) (hd : R32 d) : Met l yX7_in wsX7_in ({ frames := 0, cells := 0, slots := 0, locals := 0 }) (va_Pc [.int (iN (a)), .int (iN (b)), .int (iN (d))] (World g σ)) (QI g (fun z u => z = (if b ≤ a ∧ a ≤ d then 1 else 0) ∧ u = σ)) 0 0 (gA g) := by
  refine V_met hl9 (by decide) rfl (Nat.le_of_ble_eq_true rfl) ?_
  intro p9 e9 s9 m9 b9 t9 c9 X hr _
  refine V_lv (lv' := [(0, .int (iN (a))), (1, .int (iN (b))), (2, .int (iN (d)))]) rfl ?_
  refine V_iload_n X 0 rfl dX7_in_0 rfl ?_
  refine V_iload_n X 1 rfl dX7_in_1 rfl ?_
  refine V_icmp_lt X 14 ha hb dX7_in_2 (by decide) (fun q1 => ?_) (fun q1 => ?_)
  · skip
    refine V_iconst X dX7_in_14 ?_
    exact V_iret X hr (iN_bool (Or.inl rfl)).1 ⟨by decide, by decide⟩ (by exact ⟨by rw [if_neg (by omega)], rfl⟩) dX7_in_15 (by decide) (by decide)
  · skip
    refine V_iload_n X 0 rfl dX7_in_5 rfl ?_
    refine V_iload_n X 2 rfl dX7_in_6 rfl ?_
    refine V_icmp_gt X 14 ha hd dX7_in_7 (by decide) (fun q2 => ?_) (fun q2 => ?_)
    · skip
      refine V_iconst X dX7_in_14 ?_
      exact V_iret X hr (iN_bool (Or.inl rfl)).1 ⟨by decide, by decide⟩ (by exact ⟨by rw [if_neg (by omega)], rfl⟩) dX7_in_15 (by decide) (by decide)
    · skip
      refine V_iconst X dX7_in_10 ?_
      refine V_goto X 15 dX7_in_11 (by decide) ?_
      exact V_iret X hr (iN_bool (Or.inr rfl)).1 ⟨by decide, by decide⟩ (by exact ⟨by rw [if_pos (by omega)], rfl⟩) dX7_in_15 (by decide) (by decide)
set_option maxRecDepth 100000 in
set_option maxHeartbeats 4000000 in
theorem m_X7_isNoTrack (g : Geo) (l : Launch) (hl9 : l.stackTraces = false) (σ : St) (hR : RG σ) (a : Int) (ha : R32 a) (hT4 : 0 ≤ σ.1 89 1 ∧ σ.1 89 1 ≤ 4) : Met l yX7_isNoTrack wsX7_isNoTrack ({ frames := 1, cells := 0, slots := 0, locals := 22 }) (va_Pc [.ref (ga g (89)), .int (iN (a))] (World g σ)) (QI g (fun z u => z = (if 0 ≤ a ∧ a < σ.1 89 1 then 0 else 1) ∧ u = σ)) 0 0 (gA g) := by
  refine V_met hl9 (by decide) rfl (Nat.le_of_ble_eq_true rfl) ?_
  intro p9 e9 s9 m9 b9 t9 c9 X hr _
  refine V_lv (lv' := [(0, .ref (ga g (89))), (1, .int (iN (a)))]) rfl ?_
  refine V_iload_n X 1 rfl dX7_isNoTrack_0 rfl ?_
  refine V_iconst X dX7_isNoTrack_1 ?_
  refine V_aload_n X 0 rfl dX7_isNoTrack_2 rfl ?_
  refine V_get X (ci := 7) (89) (by decide) (rfl) (by decide) rfl (fun _ h => List.mem_cons_of_mem _ (List.mem_append_right _ h)) 1 (by decide) (List.mem_of_getElem? (i := 1) rfl) rfl rfl dX7_isNoTrack_3 ?_
  refine V_iconst X dX7_isNoTrack_6 ?_
  refine V_isub X dX7_isNoTrack_7 ?_
  refine V_callS_I X (na := 3) (m_X7_in g l hl9 σ a 0 (σ.1 89 1 - 1) ha ⟨by decide, by decide⟩ ⟨by omega, by omega⟩) gX7_isNoTrack_X7_in rfl rfl rfl (by decide +kernel) ⟨Nat.le_of_ble_eq_true rfl, Nat.le_of_ble_eq_true rfl⟩ rfl rfl (Nat.le_of_ble_eq_true rfl) ⟨Nat.le_of_ble_eq_true rfl, Nat.le_of_ble_eq_true rfl⟩ dX7_isNoTrack_8 (fun z1 u2 z1r hp3 => ?_)
  obtain ⟨hz9, hu4⟩ := hp3
  have hu4 := hu4.symm
  subst hu4
  rcases Classical.em (0 ≤ a ∧ a ≤ σ.1 89 1 - 1) with hw | hw
  · skip
    rw [if_pos hw] at hz9
    subst hz9
    refine V_if_ne X 18 ⟨by decide, by decide⟩ dX7_isNoTrack_11 (by decide) (fun _ => ?_) (fun h => absurd h (by first | decide | omega))
    refine V_iconst X dX7_isNoTrack_18 ?_
    exact V_iret X hr (iN_bool (Or.inl rfl)).1 ⟨by decide, by decide⟩ (by exact ⟨by rw [if_pos (by omega)], rfl⟩) dX7_isNoTrack_19 (by decide) (by decide)
  · skip
    rw [if_neg hw] at hz9
    subst hz9
    refine V_if_ne X 18 ⟨by decide, by decide⟩ dX7_isNoTrack_11 (by decide) (fun h => absurd h (by first | decide | omega)) (fun _ => ?_)
    refine V_iconst X dX7_isNoTrack_14 ?_
    refine V_goto X 19 dX7_isNoTrack_15 (by decide) ?_
    exact V_iret X hr (iN_bool (Or.inr rfl)).1 ⟨by decide, by decide⟩ (by exact ⟨by rw [if_neg (by omega)], rfl⟩) dX7_isNoTrack_19 (by decide) (by decide)
set_option maxRecDepth 100000 in
set_option maxHeartbeats 4000000 in
theorem m_X7_isNoCar (g : Geo) (l : Launch) (hl9 : l.stackTraces = false) (σ : St) (hR : RG σ) (a : Int) (ha : R32 a) (hC4 : 0 ≤ σ.1 89 5 ∧ σ.1 89 5 ≤ 4) : Met l yX7_isNoCar wsX7_isNoCar ({ frames := 1, cells := 0, slots := 0, locals := 22 }) (va_Pc [.ref (ga g (89)), .int (iN (a))] (World g σ)) (QI g (fun z u => z = (if 0 ≤ a ∧ a < σ.1 89 5 then 0 else 1) ∧ u = σ)) 0 0 (gA g) := by
  refine V_met hl9 (by decide) rfl (Nat.le_of_ble_eq_true rfl) ?_
  intro p9 e9 s9 m9 b9 t9 c9 X hr _
  refine V_lv (lv' := [(0, .ref (ga g (89))), (1, .int (iN (a)))]) rfl ?_
  refine V_iload_n X 1 rfl dX7_isNoCar_0 rfl ?_
  refine V_iconst X dX7_isNoCar_1 ?_
  refine V_aload_n X 0 rfl dX7_isNoCar_2 rfl ?_
  refine V_get X (ci := 7) (89) (by decide) (rfl) (by decide) rfl (fun _ h => List.mem_cons_of_mem _ (List.mem_append_right _ h)) 5 (by decide) (List.mem_of_getElem? (i := 1) rfl) rfl rfl dX7_isNoCar_3 ?_
  refine V_iconst X dX7_isNoCar_6 ?_
  refine V_isub X dX7_isNoCar_7 ?_
  refine V_callS_I X (na := 3) (m_X7_in g l hl9 σ a 0 (σ.1 89 5 - 1) ha ⟨by decide, by decide⟩ ⟨by omega, by omega⟩) gX7_isNoCar_X7_in rfl rfl rfl (by decide +kernel) ⟨Nat.le_of_ble_eq_true rfl, Nat.le_of_ble_eq_true rfl⟩ rfl rfl (Nat.le_of_ble_eq_true rfl) ⟨Nat.le_of_ble_eq_true rfl, Nat.le_of_ble_eq_true rfl⟩ dX7_isNoCar_8 (fun z1 u2 z1r hp3 => ?_)
  obtain ⟨hz9, hu4⟩ := hp3
  have hu4 := hu4.symm
  subst hu4
  rcases Classical.em (0 ≤ a ∧ a ≤ σ.1 89 5 - 1) with hw | hw
  · skip
    rw [if_pos hw] at hz9
    subst hz9
    refine V_if_ne X 18 ⟨by decide, by decide⟩ dX7_isNoCar_11 (by decide) (fun _ => ?_) (fun h => absurd h (by first | decide | omega))
    refine V_iconst X dX7_isNoCar_18 ?_
    exact V_iret X hr (iN_bool (Or.inl rfl)).1 ⟨by decide, by decide⟩ (by exact ⟨by rw [if_pos (by omega)], rfl⟩) dX7_isNoCar_19 (by decide) (by decide)
  · skip
    rw [if_neg hw] at hz9
    subst hz9
    refine V_if_ne X 18 ⟨by decide, by decide⟩ dX7_isNoCar_11 (by decide) (fun h => absurd h (by first | decide | omega)) (fun _ => ?_)
    refine V_iconst X dX7_isNoCar_14 ?_
    refine V_goto X 19 dX7_isNoCar_15 (by decide) ?_
    exact V_iret X hr (iN_bool (Or.inr rfl)).1 ⟨by decide, by decide⟩ (by exact ⟨by rw [if_neg (by omega)], rfl⟩) dX7_isNoCar_19 (by decide) (by decide)
set_option maxRecDepth 100000 in
set_option maxHeartbeats 4000000 in
theorem m_X7_isNoLap (g : Geo) (l : Launch) (hl9 : l.stackTraces = false) (σ : St) (hR : RG σ) (a : Int) (ha : R32 a) (hL4 : 0 ≤ σ.1 89 11 ∧ σ.1 89 11 ≤ 30) : Met l yX7_isNoLap wsX7_isNoLap ({ frames := 1, cells := 0, slots := 0, locals := 22 }) (va_Pc [.ref (ga g (89)), .int (iN (a))] (World g σ)) (QI g (fun z u => z = (if 0 ≤ a ∧ a < σ.1 89 11 then 0 else 1) ∧ u = σ)) 0 0 (gA g) := by
  refine V_met hl9 (by decide) rfl (Nat.le_of_ble_eq_true rfl) ?_
  intro p9 e9 s9 m9 b9 t9 c9 X hr _
  refine V_lv (lv' := [(0, .ref (ga g (89))), (1, .int (iN (a)))]) rfl ?_
  refine V_iload_n X 1 rfl dX7_isNoLap_0 rfl ?_
  refine V_iconst X dX7_isNoLap_1 ?_
  refine V_aload_n X 0 rfl dX7_isNoLap_2 rfl ?_
  refine V_get X (ci := 7) (89) (by decide) (rfl) (by decide) rfl (fun _ h => List.mem_cons_of_mem _ (List.mem_append_right _ h)) 11 (by decide) (List.mem_of_getElem? (i := 1) rfl) rfl rfl dX7_isNoLap_3 ?_
  refine V_iconst X dX7_isNoLap_6 ?_
  refine V_isub X dX7_isNoLap_7 ?_
  refine V_callS_I X (na := 3) (m_X7_in g l hl9 σ a 0 (σ.1 89 11 - 1) ha ⟨by decide, by decide⟩ ⟨by omega, by omega⟩) gX7_isNoLap_X7_in rfl rfl rfl (by decide +kernel) ⟨Nat.le_of_ble_eq_true rfl, Nat.le_of_ble_eq_true rfl⟩ rfl rfl (Nat.le_of_ble_eq_true rfl) ⟨Nat.le_of_ble_eq_true rfl, Nat.le_of_ble_eq_true rfl⟩ dX7_isNoLap_8 (fun z1 u2 z1r hp3 => ?_)
  obtain ⟨hz9, hu4⟩ := hp3
  have hu4 := hu4.symm
  subst hu4
  rcases Classical.em (0 ≤ a ∧ a ≤ σ.1 89 11 - 1) with hw | hw
  · skip
    rw [if_pos hw] at hz9
    subst hz9
    refine V_if_ne X 18 ⟨by decide, by decide⟩ dX7_isNoLap_11 (by decide) (fun _ => ?_) (fun h => absurd h (by first | decide | omega))
    refine V_iconst X dX7_isNoLap_18 ?_
    exact V_iret X hr (iN_bool (Or.inl rfl)).1 ⟨by decide, by decide⟩ (by exact ⟨by rw [if_pos (by omega)], rfl⟩) dX7_isNoLap_19 (by decide) (by decide)
  · skip
    rw [if_neg hw] at hz9
    subst hz9
    refine V_if_ne X 18 ⟨by decide, by decide⟩ dX7_isNoLap_11 (by decide) (fun h => absurd h (by first | decide | omega)) (fun _ => ?_)
    refine V_iconst X dX7_isNoLap_14 ?_
    refine V_goto X 19 dX7_isNoLap_15 (by decide) ?_
    exact V_iret X hr (iN_bool (Or.inr rfl)).1 ⟨by decide, by decide⟩ (by exact ⟨by rw [if_neg (by omega)], rfl⟩) dX7_isNoLap_19 (by decide) (by decide)
set_option maxRecDepth 100000 in
set_option maxHeartbeats 4000000 in
theorem m_X7_track (g : Geo) (l : Launch) (hl9 : l.stackTraces = false) (σ : St) (hR : RG σ) (hT4 : 0 ≤ σ.1 89 1 ∧ σ.1 89 1 ≤ 4) : Met l yX7_track wsX7_track ({ frames := 1, cells := 0, slots := 0, locals := 21 }) (va_Pc [.ref (ga g (89))] (World g σ)) (QI g (fun z u => (σ.1 89 1 < 4 ∧ z = σ.1 89 1 ∧ u = sw (sw σ 89 0 0) 89 1 (σ.1 89 1 + 1)) ∨ (¬ σ.1 89 1 < 4 ∧ u = sw σ 89 0 1))) 0 0 (gA g) := by
  refine V_met hl9 (by decide) rfl (Nat.le_of_ble_eq_true rfl) ?_
  intro p9 e9 s9 m9 b9 t9 c9 X hr _
  refine V_lv (lv' := [(0, .ref (ga g (89)))]) rfl ?_
  refine V_aload_n X 0 rfl dX7_track_0 rfl ?_
  refine V_aload_n X 0 rfl dX7_track_1 rfl ?_
  refine V_get X (ci := 7) (89) (by decide) (rfl) (by decide) rfl (fun _ h => List.mem_cons_of_mem _ (List.mem_append_right _ h)) 1 (by decide) (List.mem_of_getElem? (i := 1) rfl) rfl rfl dX7_track_2 ?_
  refine V_iconst X dX7_track_5 ?_
  refine V_icmp_ne X 13 (hR _ _) ⟨by decide, by decide⟩ dX7_track_6 (by decide) (fun q1 => ?_) (fun q1 => ?_)
  · skip
    refine V_iconst X dX7_track_13 ?_
    refine V_callV_I X (na := 1) (ci := 7) (b0 := 89) (by decide) (rfl) (by decide) rfl (m_X7_fails g l hl9 σ hR 0 ⟨by decide, by decide⟩) gX7_track_X7_fails rfl rfl rfl (by decide +kernel) ⟨Nat.le_of_ble_eq_true rfl, Nat.le_of_ble_eq_true rfl⟩ rfl rfl (Nat.le_of_ble_eq_true rfl) ⟨Nat.le_of_ble_eq_true rfl, Nat.le_of_ble_eq_true rfl⟩ dX7_track_14 (fun z2 u3 z2r hp4 => ?_)
    obtain ⟨hz9, hu5⟩ := hp4
    have hu5 := hu5.symm
    subst hu5
    rw [if_neg (by decide)] at hz9
    subst hz9
    refine V_if_eq X 22 ⟨by decide, by decide⟩ dX7_track_17 (by decide) (fun _ => ?_) (fun h => absurd h (by first | decide | omega))
    refine V_aload_n X 0 rfl dX7_track_22 rfl ?_
    refine V_dup X rfl dX7_track_23 ?_
    refine V_get X (ci := 7) (89) (by decide) (rfl) (by decide) rfl (fun _ h => List.mem_cons_of_mem _ (List.mem_append_right _ h)) 1 (by decide) (List.mem_of_getElem? (i := 1) rfl) rfl rfl dX7_track_24 ?_
    refine V_top (b := σ.1 89 1) (rd_k (by decide)) ?_
    refine V_iconst X dX7_track_27 ?_
    refine V_iadd X dX7_track_28 ?_
    refine V_put X (ci := 7) (89) (by decide) (rfl) (by decide) rfl (fun _ h => List.mem_cons_of_mem _ (List.mem_append_right _ h)) 1 (by decide) (List.mem_of_getElem? (i := 1) rfl) rfl tyX7 tyX7_ok nmX7 rfl rfl rfl rfl rfl (Nat.le_of_ble_eq_true rfl) dX7_track_29 ?_
    refine V_aload_n X 0 rfl dX7_track_32 rfl ?_
    refine V_get X (ci := 7) (89) (by decide) (rfl) (by decide) rfl (fun _ h => List.mem_cons_of_mem _ (List.mem_append_right _ h)) 1 (by decide) (List.mem_of_getElem? (i := 1) rfl) rfl rfl dX7_track_33 ?_
    refine V_top (b := (σ.1 89 1) + 1) rd_s ?_
    refine V_iconst X dX7_track_36 ?_
    refine V_isub X dX7_track_37 ?_
    refine V_top (b := σ.1 89 1) (by omega) ?_
    exact V_iret X hr rfl (hR _ _) (by exact Or.inl ⟨by omega, rfl, rfl⟩) dX7_track_38 (by decide) (by decide)
  · skip
    refine V_iconst X dX7_track_9 ?_
    refine V_goto X 14 dX7_track_10 (by decide) ?_
    refine V_callV_I X (na := 1) (ci := 7) (b0 := 89) (by decide) (rfl) (by decide) rfl (m_X7_fails g l hl9 σ hR 1 ⟨by decide, by decide⟩) gX7_track_X7_fails rfl rfl rfl (by decide +kernel) ⟨Nat.le_of_ble_eq_true rfl, Nat.le_of_ble_eq_true rfl⟩ rfl rfl (Nat.le_of_ble_eq_true rfl) ⟨Nat.le_of_ble_eq_true rfl, Nat.le_of_ble_eq_true rfl⟩ dX7_track_14 (fun z6 u7 z6r hp8 => ?_)
    obtain ⟨hz9, hu9⟩ := hp8
    have hu9 := hu9.symm
    subst hu9
    rw [if_pos (by decide)] at hz9
    subst hz9
    refine V_if_eq X 22 ⟨by decide, by decide⟩ dX7_track_17 (by decide) (fun h => absurd h (by first | decide | omega)) (fun _ => ?_)
    refine V_iconst X dX7_track_20 ?_
    exact V_iret X hr rfl ⟨by decide, by decide⟩ (by exact Or.inr ⟨by omega, rfl⟩) dX7_track_21 (by decide) (by decide)
set_option maxRecDepth 100000 in
set_option maxHeartbeats 4000000 in
theorem m_X7_lengthNow (g : Geo) (l : Launch) (hl9 : l.stackTraces = false) (σ : St) (hR : RG σ) (hTM : TM σ) (a : Int) (ha1 : 0 ≤ a ∧ a < 4) : Met l yX7_lengthNow wsX7_lengthNow ({ frames := 0, cells := 0, slots := 0, locals := 0 }) (va_Pc [.ref (ga g (89)), .int (iN (a))] (World g σ)) (QI g (fun z u => z = lenM σ a.toNat ∧ u = σ)) 0 0 (gA g) := by
  refine V_met hl9 (by decide) rfl (Nat.le_of_ble_eq_true rfl) ?_
  intro p9 e9 s9 m9 b9 t9 c9 X hr _
  have hk := hTM.1 a.toNat (by omega)
  have hsb := (sumF_b2 (f := lenRow σ a.toNat) (c := 30) (m := 12) (hTM.row (by omega)) (σ.1 90 a.toNat).toNat (by omega))
  refine V_lv (lv' := [(0, .ref (ga g (89))), (1, .int (iN (a)))]) rfl ?_
  refine V_iconst X dX7_lengthNow_0 ?_
  refine V_istore_n X [(2, .int (iN (0))), (0, .ref (ga g (89))), (1, .int (iN (a)))] dX7_lengthNow_1 rfl (by decide) rfl ?_
  refine V_iconst X dX7_lengthNow_2 ?_
  refine V_istore_n X [(3, .int (iN (0))), (2, .int (iN (0))), (0, .ref (ga g (89))), (1, .int (iN (a)))] dX7_lengthNow_3 rfl (by decide) rfl ?_
  refine V_sub (lv' := [(0, .ref (ga g (89))), (1, .int (iN (a))), (2, .int (iN (0))), (3, .int (iN (0)))]) [2, 3, 1, 0] rfl ?_
  refine V_up (N := (σ.1 90 a.toNat).toNat) (fun (i : Nat) (u : St) (lw : List (Nat × Value)) => σ = u ∧ [(0, .ref (ga g (89))), (1, .int (iN (a))), (2, .int (iN (sumF (lenRow σ a.toNat) i))), (3, .int (iN (((i : Nat) : Int))))] = lw ∧ (True)) (i0 := 0) (Nat.zero_le _) ⟨rfl, rfl, trivial⟩ ?_ ?_
  · skip
    rintro _ _ ⟨rfl, rfl, -⟩
    refine V_iload_n X 3 rfl dX7_lengthNow_4 rfl ?_
    refine V_aload_n X 0 rfl dX7_lengthNow_5 rfl ?_
    refine V_get X (ci := 7) (89) (by decide) (rfl) (by decide) rfl (fun _ h => List.mem_cons_of_mem _ (List.mem_append_right _ h)) 2 (by decide) (List.mem_of_getElem? (i := 1) rfl) rfl rfl dX7_lengthNow_6 ?_
    refine V_iload_n X 1 rfl dX7_lengthNow_9 rfl ?_
    refine V_iald X (N := 4) (90) (by decide) (rfl) (rfl) (by decide) (a.toNat) (by omega) (by omega) dX7_lengthNow_10 ?_
    refine V_icmp_ge X 34 ⟨by omega, by omega⟩ (hR _ _) dX7_lengthNow_11 (by decide) (fun _ => ?_) (fun h => absurd h (by omega))
    refine V_iload_n X 2 rfl dX7_lengthNow_34 rfl ?_
    exact V_iret X hr rfl ⟨by omega, by omega⟩ (by exact ⟨rfl, rfl⟩) dX7_lengthNow_35 (by decide) (by decide)
  · skip
    rintro i _ _ hiN ⟨rfl, rfl, -⟩ kk
    refine V_iload_n X 3 rfl dX7_lengthNow_4 rfl ?_
    refine V_aload_n X 0 rfl dX7_lengthNow_5 rfl ?_
    refine V_get X (ci := 7) (89) (by decide) (rfl) (by decide) rfl (fun _ h => List.mem_cons_of_mem _ (List.mem_append_right _ h)) 2 (by decide) (List.mem_of_getElem? (i := 1) rfl) rfl rfl dX7_lengthNow_6 ?_
    refine V_iload_n X 1 rfl dX7_lengthNow_9 rfl ?_
    refine V_iald X (N := 4) (90) (by decide) (rfl) (rfl) (by decide) (a.toNat) (by omega) (by omega) dX7_lengthNow_10 ?_
    refine V_icmp_ge X 34 ⟨by omega, by omega⟩ (hR _ _) dX7_lengthNow_11 (by decide) (fun h => absurd h (by omega)) (fun _ => ?_)
    refine V_iload_n X 2 rfl dX7_lengthNow_14 rfl ?_
    refine V_aload_n X 0 rfl dX7_lengthNow_15 rfl ?_
    refine V_get X (ci := 7) (89) (by decide) (rfl) (by decide) rfl (fun _ h => List.mem_cons_of_mem _ (List.mem_append_right _ h)) 3 (by decide) (List.mem_of_getElem? (i := 2) rfl) rfl rfl dX7_lengthNow_16 ?_
    refine V_bipush X (by decide) dX7_lengthNow_19 ?_
    refine V_iload_n X 1 rfl dX7_lengthNow_21 rfl ?_
    refine V_imul X dX7_lengthNow_22 ?_
    refine V_iload_n X 3 rfl dX7_lengthNow_23 rfl ?_
    refine V_iadd X dX7_lengthNow_24 ?_
    refine V_iald X (N := 48) (91) (by decide) (rfl) (rfl) (by decide) (12 * a.toNat + i) (by omega) (by omega) dX7_lengthNow_25 ?_
    refine V_iadd X dX7_lengthNow_26 ?_
    refine V_istore_n X [(2, .int (iN ((sumF (lenRow σ a.toNat) i) + (σ.1 (91) (12 * a.toNat + i))))), (0, .ref (ga g (89))), (1, .int (iN (a))), (3, .int (iN (((i : Nat) : Int))))] dX7_lengthNow_27 rfl (by decide) rfl ?_
    refine V_iinc X [(3, .int (iN (((i : Nat) : Int) + 1))), (2, .int (iN ((sumF (lenRow σ a.toNat) i) + (σ.1 (91) (12 * a.toNat + i))))), (0, .ref (ga g (89))), (1, .int (iN (a)))] 3 (((i : Nat) : Int) + 1) (rfl) rfl dX7_lengthNow_28 (by decide) rfl ?_
    refine V_goto X 4 dX7_lengthNow_31 (by decide) ?_
    refine V_sub (lv' := [(0, .ref (ga g (89))), (1, .int (iN (a))), (2, .int (iN ((sumF (lenRow σ a.toNat) i) + (σ.1 (91) (12 * a.toNat + i))))), (3, .int (iN (((i : Nat) : Int) + 1)))]) [2, 3, 1, 0] rfl ?_
    refine V_lv (congrArg (fun q : Int => ([(0, .ref (ga g (89))), (1, .int (iN (a))), (2, .int (iN q)), (3, .int (iN (((i : Nat) : Int) + 1)))] : List (Nat × Value))) (show (sumF (lenRow σ a.toNat) i) + (σ.1 (91) (12 * a.toNat + i)) = sumF (lenRow σ a.toNat) (i + 1) from rfl)) ?_
    refine V_lv (congrArg (fun q : Int => ([(0, .ref (ga g (89))), (1, .int (iN (a))), (2, .int (iN (sumF (lenRow σ a.toNat) (i + 1)))), (3, .int (iN q))] : List (Nat × Value))) (show ((i : Nat) : Int) + 1 = (((i + 1) : Nat) : Int) from by omega)) ?_
    exact kk _ _ ⟨rfl, rfl, trivial⟩
set_option maxRecDepth 100000 in
set_option maxHeartbeats 4000000 in
theorem m_X7_stretch (g : Geo) (l : Launch) (hl9 : l.stackTraces = false) (σ : St) (hR : RG σ) (hTM : TM σ) (hT4 : 0 ≤ σ.1 89 1 ∧ σ.1 89 1 ≤ 4) (n : Nat) (hn : σ.1 89 11 = (n : Int)) (hn30 : n ≤ 30) (a len lim : Int) (ha : R32 a) (hl1 : R32 len) (hl2 : R32 lim) : Met l yX7_stretch wsX7_stretch ({ frames := 2, cells := 0, slots := 0, locals := 43 }) (va_Pc [.ref (ga g (89)), .int (iN (a)), .int (iN (len)), .int (iN (lim))] (World g σ)) (QI g (fun z u => ((0 ≤ a ∧ a < σ.1 89 1) ∧ ((1 ≤ len ∧ len ≤ 30) ∧ 1 ≤ lim ∧ lim ≤ 9) ∧ drvM σ a n = 0 ∧ σ.1 90 a.toNat < 12 ∧ z = lenM (strM σ a.toNat (σ.1 90 a.toNat).toNat len lim) a.toNat ∧ u = strM σ a.toNat (σ.1 90 a.toNat).toNat len lim) ∨ (¬ (0 ≤ a ∧ a < σ.1 89 1) ∧ u = sw σ 89 0 1) ∨ ((0 ≤ a ∧ a < σ.1 89 1) ∧ ¬ ((1 ≤ len ∧ len ≤ 30) ∧ 1 ≤ lim ∧ lim ≤ 9) ∧ u = sw σ 89 0 2) ∨ ((0 ≤ a ∧ a < σ.1 89 1) ∧ ((1 ≤ len ∧ len ≤ 30) ∧ 1 ≤ lim ∧ lim ≤ 9) ∧ drvM σ a n = 1 ∧ u = sw σ 89 0 3) ∨ ((0 ≤ a ∧ a < σ.1 89 1) ∧ ((1 ≤ len ∧ len ≤ 30) ∧ 1 ≤ lim ∧ lim ≤ 9) ∧ drvM σ a n = 0 ∧ ¬ σ.1 90 a.toNat < 12 ∧ u = sw σ 89 0 4))) 0 0 (gA g) := by
  refine V_met hl9 (by decide) rfl (Nat.le_of_ble_eq_true rfl) ?_
  intro p9 e9 s9 m9 b9 t9 c9 X hr _
  refine V_lv (lv' := [(0, .ref (ga g (89))), (1, .int (iN (a))), (2, .int (iN (len))), (3, .int (iN (lim)))]) rfl ?_
  refine V_iconst X dX7_stretch_0 ?_
  refine V_istore X [(4, .int (iN (0))), (0, .ref (ga g (89))), (1, .int (iN (a))), (2, .int (iN (len))), (3, .int (iN (lim)))] dX7_stretch_1 (by decide) rfl ?_
  refine V_iconst X dX7_stretch_3 ?_
  refine V_istore X [(5, .int (iN (0))), (4, .int (iN (0))), (0, .ref (ga g (89))), (1, .int (iN (a))), (2, .int (iN (len))), (3, .int (iN (lim)))] dX7_stretch_4 (by decide) rfl ?_
  refine V_sub (lv' := [(0, .ref (ga g (89))), (1, .int (iN (a))), (2, .int (iN (len))), (3, .int (iN (lim))), (4, .int (iN (0))), (5, .int (iN (0)))]) [2, 3, 4, 5, 1, 0] rfl ?_
  refine V_up (N := n) (fun (i : Nat) (u : St) (lw : List (Nat × Value)) => σ = u ∧ [(0, .ref (ga g (89))), (1, .int (iN (a))), (2, .int (iN (len))), (3, .int (iN (lim))), (4, .int (iN (drvM σ a i))), (5, .int (iN (((i : Nat) : Int))))] = lw ∧ (True)) (i0 := 0) (Nat.zero_le _) ⟨rfl, rfl, trivial⟩ ?_ ?_
  · skip
    rintro _ _ ⟨rfl, rfl, -⟩
    have hdb := drvM_b (σ := σ) (a := a) n
    refine V_iload X 5 rfl dX7_stretch_6 ?_
    refine V_aload_n X 0 rfl dX7_stretch_8 rfl ?_
    refine V_get X (ci := 7) (89) (by decide) (rfl) (by decide) rfl (fun _ h => List.mem_cons_of_mem _ (List.mem_append_right _ h)) 11 (by decide) (List.mem_of_getElem? (i := 1) rfl) rfl rfl dX7_stretch_9 ?_
    refine V_icmp_ge X 42 ⟨by omega, by omega⟩ (hR _ _) dX7_stretch_12 (by decide) (fun _ => ?_) (fun h => absurd h (by omega))
    refine V_aload_n X 0 rfl dX7_stretch_42 rfl ?_
    refine V_iload_n X 1 rfl dX7_stretch_43 rfl ?_
    refine V_callV_I X (na := 1) (ci := 7) (b0 := 89) (by decide) (rfl) (by decide) rfl (m_X7_isNoTrack g l hl9 σ hR a ha hT4) gX7_stretch_X7_isNoTrack rfl rfl rfl (by decide +kernel) ⟨Nat.le_of_ble_eq_true rfl, Nat.le_of_ble_eq_true rfl⟩ rfl rfl (Nat.le_of_ble_eq_true rfl) ⟨Nat.le_of_ble_eq_true rfl, Nat.le_of_ble_eq_true rfl⟩ dX7_stretch_44 (fun z1 u2 z1r hp3 => ?_)
    obtain ⟨hz9, hu4⟩ := hp3
    have hu4 := hu4.symm
    subst hu4
    rcases Classical.em (0 ≤ a ∧ a < σ.1 89 1) with hT | hT
    · skip
      rw [if_pos hT] at hz9
      subst hz9
      refine V_if_eq X 54 ⟨by decide, by decide⟩ dX7_stretch_47 (by decide) (fun _ => ?_) (fun h => absurd h (by first | decide | omega))
      refine V_iload_n X 2 rfl dX7_stretch_54 rfl ?_
      refine V_iconst X dX7_stretch_55 ?_
      refine V_bipush X (by decide) dX7_stretch_56 ?_
      refine V_callS_I X (na := 3) (m_X7_in g l hl9 σ len 1 (30) hl1 ⟨by decide, by decide⟩ ⟨by decide, by decide⟩) gX7_stretch_X7_in rfl rfl rfl (by decide +kernel) ⟨Nat.le_of_ble_eq_true rfl, Nat.le_of_ble_eq_true rfl⟩ rfl rfl (Nat.le_of_ble_eq_true rfl) ⟨Nat.le_of_ble_eq_true rfl, Nat.le_of_ble_eq_true rfl⟩ dX7_stretch_58 (fun z5 u6 z5r hp7 => ?_)
      obtain ⟨hz9, hu8⟩ := hp7
      have hu8 := hu8.symm
      subst hu8
      rcases Classical.em (1 ≤ len ∧ len ≤ 30) with hw58 | hw58
      · skip
        rw [if_pos hw58] at hz9
        subst hz9
        refine V_if_eq X 74 ⟨by decide, by decide⟩ dX7_stretch_61 (by decide) (fun h => absurd h (by first | decide | omega)) (fun _ => ?_)
        refine V_iload_n X 3 rfl dX7_stretch_64 rfl ?_
        refine V_iconst X dX7_stretch_65 ?_
        refine V_bipush X (by decide) dX7_stretch_66 ?_
        refine V_callS_I X (na := 3) (m_X7_in g l hl9 σ lim 1 (9) hl2 ⟨by decide, by decide⟩ ⟨by decide, by decide⟩) gX7_stretch_X7_in rfl rfl rfl (by decide +kernel) ⟨Nat.le_of_ble_eq_true rfl, Nat.le_of_ble_eq_true rfl⟩ rfl rfl (Nat.le_of_ble_eq_true rfl) ⟨Nat.le_of_ble_eq_true rfl, Nat.le_of_ble_eq_true rfl⟩ dX7_stretch_68 (fun z9 u10 z9r hp11 => ?_)
        obtain ⟨hz9, hu12⟩ := hp11
        have hu12 := hu12.symm
        subst hu12
        rcases Classical.em (1 ≤ lim ∧ lim ≤ 9) with hw68 | hw68
        · skip
          rw [if_pos hw68] at hz9
          subst hz9
          refine V_if_ne X 78 ⟨by decide, by decide⟩ dX7_stretch_71 (by decide) (fun _ => ?_) (fun h => absurd h (by first | decide | omega))
          refine V_iload X 4 rfl dX7_stretch_78 ?_
          refine V_if_eq X 87 ⟨by omega, by omega⟩ dX7_stretch_80 (by decide) (fun q13 => ?_) (fun q13 => ?_)
          · skip
            refine V_aload_n X 0 rfl dX7_stretch_87 rfl ?_
            have hk := hTM.1 a.toNat (by omega)
            refine V_get X (ci := 7) (89) (by decide) (rfl) (by decide) rfl (fun _ h => List.mem_cons_of_mem _ (List.mem_append_right _ h)) 2 (by decide) (List.mem_of_getElem? (i := 3) rfl) rfl rfl dX7_stretch_88 ?_
            refine V_iload_n X 1 rfl dX7_stretch_91 rfl ?_
            refine V_iald X (N := 4) (90) (by decide) (rfl) (rfl) (by decide) (a.toNat) (by omega) (by omega) dX7_stretch_92 ?_
            refine V_bipush X (by decide) dX7_stretch_93 ?_
            refine V_icmp_ne X 102 (hR _ _) ⟨by decide, by decide⟩ dX7_stretch_95 (by decide) (fun q14 => ?_) (fun q14 => ?_)
            · skip
              refine V_iconst X dX7_stretch_102 ?_
              refine V_istore X [(5, .int (iN (0))), (0, .ref (ga g (89))), (1, .int (iN (a))), (2, .int (iN (len))), (3, .int (iN (lim))), (4, .int (iN (drvM σ a n)))] dX7_stretch_103 (by decide) rfl ?_
              refine V_aload_n X 1 rfl dX7_stretch_105 rfl ?_
              refine V_iload X 0 rfl dX7_stretch_106 ?_
              refine V_callV_I X (na := 1) (ci := 7) (b0 := 89) (by decide) (rfl) (by decide) rfl (m_X7_fails g l hl9 σ hR 0 ⟨by decide, by decide⟩) gX7_stretch_X7_fails rfl rfl rfl (by decide +kernel) ⟨Nat.le_of_ble_eq_true rfl, Nat.le_of_ble_eq_true rfl⟩ rfl rfl (Nat.le_of_ble_eq_true rfl) ⟨Nat.le_of_ble_eq_true rfl, Nat.le_of_ble_eq_true rfl⟩ dX7_stretch_108 (fun z15 u16 z15r hp17 => ?_)
              obtain ⟨hz9, hu18⟩ := hp17
              have hu18 := hu18.symm
              subst hu18
              rw [if_neg (by decide)] at hz9
              subst hz9
              refine V_if_eq X 116 ⟨by decide, by decide⟩ dX7_stretch_111 (by decide) (fun _ => ?_) (fun h => absurd h (by first | decide | omega))
              refine V_aload_n X 1 rfl dX7_stretch_116 rfl ?_
              refine V_get X (ci := 7) (89) (by decide) (rfl) (by decide) rfl (fun _ h => List.mem_cons_of_mem _ (List.mem_append_right _ h)) 3 (by decide) (List.mem_of_getElem? (i := 4) rfl) rfl rfl dX7_stretch_117 ?_
              refine V_bipush X (by decide) dX7_stretch_120 ?_
              refine V_iload_n X 2 rfl dX7_stretch_122 rfl ?_
              refine V_imul X dX7_stretch_123 ?_
              refine V_aload_n X 1 rfl dX7_stretch_124 rfl ?_
              refine V_get X (ci := 7) (89) (by decide) (rfl) (by decide) rfl (fun _ h => List.mem_cons_of_mem _ (List.mem_append_right _ h)) 2 (by decide) (List.mem_of_getElem? (i := 3) rfl) rfl rfl dX7_stretch_125 ?_
              refine V_iload_n X 2 rfl dX7_stretch_128 rfl ?_
              refine V_iald X (N := 4) (90) (by decide) (rfl) (rfl) (by decide) (a.toNat) (by omega) (by omega) dX7_stretch_129 ?_
              refine V_top (b := σ.1 (90) (a.toNat)) (rd_n (by decide)) ?_
              refine V_iadd X dX7_stretch_130 ?_
              refine V_iload_n X 3 rfl dX7_stretch_131 rfl ?_
              refine V_iast X (N := 48) (91) (by decide) (rfl) (rfl) (by decide) (12 * a.toNat + (σ.1 90 a.toNat).toNat) (by omega) (by omega) dX7_stretch_132 ?_
              refine V_aload_n X 1 rfl dX7_stretch_133 rfl ?_
              refine V_get X (ci := 7) (89) (by decide) (rfl) (by decide) rfl (fun _ h => List.mem_cons_of_mem _ (List.mem_append_right _ h)) 4 (by decide) (List.mem_of_getElem? (i := 5) rfl) rfl rfl dX7_stretch_134 ?_
              refine V_bipush X (by decide) dX7_stretch_137 ?_
              refine V_iload_n X 2 rfl dX7_stretch_139 rfl ?_
              refine V_imul X dX7_stretch_140 ?_
              refine V_aload_n X 1 rfl dX7_stretch_141 rfl ?_
              refine V_get X (ci := 7) (89) (by decide) (rfl) (by decide) rfl (fun _ h => List.mem_cons_of_mem _ (List.mem_append_right _ h)) 2 (by decide) (List.mem_of_getElem? (i := 3) rfl) rfl rfl dX7_stretch_142 ?_
              refine V_iload_n X 2 rfl dX7_stretch_145 rfl ?_
              refine V_iald X (N := 4) (90) (by decide) (rfl) (rfl) (by decide) (a.toNat) (by omega) (by omega) dX7_stretch_146 ?_
              refine V_top (b := σ.1 (90) (a.toNat)) (Eq.trans (rd_n (by decide)) (rd_n (by decide))) ?_
              refine V_iadd X dX7_stretch_147 ?_
              refine V_iload_n X 4 rfl dX7_stretch_148 rfl ?_
              refine V_iast X (N := 48) (92) (by decide) (rfl) (rfl) (by decide) (12 * a.toNat + (σ.1 90 a.toNat).toNat) (by omega) (by omega) dX7_stretch_149 ?_
              refine V_aload_n X 1 rfl dX7_stretch_150 rfl ?_
              refine V_get X (ci := 7) (89) (by decide) (rfl) (by decide) rfl (fun _ h => List.mem_cons_of_mem _ (List.mem_append_right _ h)) 2 (by decide) (List.mem_of_getElem? (i := 3) rfl) rfl rfl dX7_stretch_151 ?_
              refine V_iload_n X 2 rfl dX7_stretch_154 rfl ?_
              refine V_dup2 X rfl rfl dX7_stretch_155 ?_
              refine V_iald X (N := 4) (90) (by decide) (rfl) (rfl) (by decide) (a.toNat) (by omega) (by omega) dX7_stretch_156 ?_
              refine V_top (b := σ.1 (90) (a.toNat)) (Eq.trans (rd_n (by decide)) (Eq.trans (rd_n (by decide)) (rd_n (by decide)))) ?_
              refine V_iconst X dX7_stretch_157 ?_
              refine V_iadd X dX7_stretch_158 ?_
              refine V_iast X (N := 4) (90) (by decide) (rfl) (rfl) (by decide) (a.toNat) (by omega) (by omega) dX7_stretch_159 ?_
              refine V_aload_n X 1 rfl dX7_stretch_160 rfl ?_
              refine V_iload_n X 2 rfl dX7_stretch_161 rfl ?_
              have hTS := hTM.str (t := a.toNat) (k := (σ.1 90 a.toNat).toNat) (by omega) (by omega) (by omega) hw58 hw68
              have hRS : RG (strM σ a.toNat (σ.1 90 a.toNat).toNat len lim) := ((((hR.sw _ _ ⟨by decide, by decide⟩).sw _ _ hl1).sw _ _ hl2).sw _ _ ⟨by omega, by omega⟩)
              refine V_callV_I X (na := 1) (ci := 7) (b0 := 89) (by decide) (rfl) (by decide) rfl (m_X7_lengthNow g l hl9 (strM σ a.toNat (σ.1 90 a.toNat).toNat len lim) hRS hTS a (by omega)) gX7_stretch_X7_lengthNow rfl rfl rfl (by decide +kernel) ⟨Nat.le_of_ble_eq_true rfl, Nat.le_of_ble_eq_true rfl⟩ rfl rfl (Nat.le_of_ble_eq_true rfl) ⟨Nat.le_of_ble_eq_true rfl, Nat.le_of_ble_eq_true rfl⟩ dX7_stretch_162 (fun z19 u20 z19r hp21 => ?_)
              obtain ⟨hz, hu22⟩ := hp21
              have hu22 := hu22.symm
              subst hu22
              exact V_iret X hr rfl z19r (by exact Or.inl ⟨hT, ⟨hw58, hw68⟩, by omega, by omega, hz, rfl⟩) dX7_stretch_165 (by decide) (by decide)
            · skip
              refine V_iconst X dX7_stretch_98 ?_
              refine V_goto X 103 dX7_stretch_99 (by decide) ?_
              refine V_istore X [(5, .int (iN (4))), (0, .ref (ga g (89))), (1, .int (iN (a))), (2, .int (iN (len))), (3, .int (iN (lim))), (4, .int (iN (drvM σ a n)))] dX7_stretch_103 (by decide) rfl ?_
              refine V_aload_n X 1 rfl dX7_stretch_105 rfl ?_
              refine V_iload X 0 rfl dX7_stretch_106 ?_
              refine V_callV_I X (na := 1) (ci := 7) (b0 := 89) (by decide) (rfl) (by decide) rfl (m_X7_fails g l hl9 σ hR 4 ⟨by decide, by decide⟩) gX7_stretch_X7_fails rfl rfl rfl (by decide +kernel) ⟨Nat.le_of_ble_eq_true rfl, Nat.le_of_ble_eq_true rfl⟩ rfl rfl (Nat.le_of_ble_eq_true rfl) ⟨Nat.le_of_ble_eq_true rfl, Nat.le_of_ble_eq_true rfl⟩ dX7_stretch_108 (fun z23 u24 z23r hp25 => ?_)
              obtain ⟨hz9, hu26⟩ := hp25
              have hu26 := hu26.symm
              subst hu26
              rw [if_pos (by decide)] at hz9
              subst hz9
              refine V_if_eq X 116 ⟨by decide, by decide⟩ dX7_stretch_111 (by decide) (fun h => absurd h (by first | decide | omega)) (fun _ => ?_)
              refine V_iconst X dX7_stretch_114 ?_
              exact V_iret X hr rfl ⟨by decide, by decide⟩ (by exact Or.inr (Or.inr (Or.inr (Or.inr ⟨hT, ⟨hw58, hw68⟩, by omega, by omega, rfl⟩)))) dX7_stretch_115 (by decide) (by decide)
          · skip
            refine V_iconst X dX7_stretch_83 ?_
            refine V_goto X 103 dX7_stretch_84 (by decide) ?_
            refine V_istore X [(5, .int (iN (3))), (0, .ref (ga g (89))), (1, .int (iN (a))), (2, .int (iN (len))), (3, .int (iN (lim))), (4, .int (iN (drvM σ a n)))] dX7_stretch_103 (by decide) rfl ?_
            refine V_aload_n X 1 rfl dX7_stretch_105 rfl ?_
            refine V_iload X 0 rfl dX7_stretch_106 ?_
            refine V_callV_I X (na := 1) (ci := 7) (b0 := 89) (by decide) (rfl) (by decide) rfl (m_X7_fails g l hl9 σ hR 3 ⟨by decide, by decide⟩) gX7_stretch_X7_fails rfl rfl rfl (by decide +kernel) ⟨Nat.le_of_ble_eq_true rfl, Nat.le_of_ble_eq_true rfl⟩ rfl rfl (Nat.le_of_ble_eq_true rfl) ⟨Nat.le_of_ble_eq_true rfl, Nat.le_of_ble_eq_true rfl⟩ dX7_stretch_108 (fun z27 u28 z27r hp29 => ?_)
            obtain ⟨hz9, hu30⟩ := hp29
            have hu30 := hu30.symm
            subst hu30
            rw [if_pos (by decide)] at hz9
            subst hz9
            refine V_if_eq X 116 ⟨by decide, by decide⟩ dX7_stretch_111 (by decide) (fun h => absurd h (by first | decide | omega)) (fun _ => ?_)
            refine V_iconst X dX7_stretch_114 ?_
            exact V_iret X hr rfl ⟨by decide, by decide⟩ (by exact Or.inr (Or.inr (Or.inr (Or.inl ⟨hT, ⟨hw58, hw68⟩, by omega, rfl⟩)))) dX7_stretch_115 (by decide) (by decide)
        · skip
          rw [if_neg hw68] at hz9
          subst hz9
          refine V_if_ne X 78 ⟨by decide, by decide⟩ dX7_stretch_71 (by decide) (fun h => absurd h (by first | decide | omega)) (fun _ => ?_)
          refine V_iconst X dX7_stretch_74 ?_
          refine V_goto X 103 dX7_stretch_75 (by decide) ?_
          refine V_istore X [(5, .int (iN (2))), (0, .ref (ga g (89))), (1, .int (iN (a))), (2, .int (iN (len))), (3, .int (iN (lim))), (4, .int (iN (drvM σ a n)))] dX7_stretch_103 (by decide) rfl ?_
          refine V_aload_n X 1 rfl dX7_stretch_105 rfl ?_
          refine V_iload X 0 rfl dX7_stretch_106 ?_
          refine V_callV_I X (na := 1) (ci := 7) (b0 := 89) (by decide) (rfl) (by decide) rfl (m_X7_fails g l hl9 σ hR 2 ⟨by decide, by decide⟩) gX7_stretch_X7_fails rfl rfl rfl (by decide +kernel) ⟨Nat.le_of_ble_eq_true rfl, Nat.le_of_ble_eq_true rfl⟩ rfl rfl (Nat.le_of_ble_eq_true rfl) ⟨Nat.le_of_ble_eq_true rfl, Nat.le_of_ble_eq_true rfl⟩ dX7_stretch_108 (fun z31 u32 z31r hp33 => ?_)
          obtain ⟨hz9, hu34⟩ := hp33
          have hu34 := hu34.symm
          subst hu34
          rw [if_pos (by decide)] at hz9
          subst hz9
          refine V_if_eq X 116 ⟨by decide, by decide⟩ dX7_stretch_111 (by decide) (fun h => absurd h (by first | decide | omega)) (fun _ => ?_)
          refine V_iconst X dX7_stretch_114 ?_
          exact V_iret X hr rfl ⟨by decide, by decide⟩ (by exact Or.inr (Or.inr (Or.inl ⟨hT, by omega, rfl⟩))) dX7_stretch_115 (by decide) (by decide)
      · skip
        rw [if_neg hw58] at hz9
        subst hz9
        refine V_if_eq X 74 ⟨by decide, by decide⟩ dX7_stretch_61 (by decide) (fun _ => ?_) (fun h => absurd h (by first | decide | omega))
        refine V_iconst X dX7_stretch_74 ?_
        refine V_goto X 103 dX7_stretch_75 (by decide) ?_
        refine V_istore X [(5, .int (iN (2))), (0, .ref (ga g (89))), (1, .int (iN (a))), (2, .int (iN (len))), (3, .int (iN (lim))), (4, .int (iN (drvM σ a n)))] dX7_stretch_103 (by decide) rfl ?_
        refine V_aload_n X 1 rfl dX7_stretch_105 rfl ?_
        refine V_iload X 0 rfl dX7_stretch_106 ?_
        refine V_callV_I X (na := 1) (ci := 7) (b0 := 89) (by decide) (rfl) (by decide) rfl (m_X7_fails g l hl9 σ hR 2 ⟨by decide, by decide⟩) gX7_stretch_X7_fails rfl rfl rfl (by decide +kernel) ⟨Nat.le_of_ble_eq_true rfl, Nat.le_of_ble_eq_true rfl⟩ rfl rfl (Nat.le_of_ble_eq_true rfl) ⟨Nat.le_of_ble_eq_true rfl, Nat.le_of_ble_eq_true rfl⟩ dX7_stretch_108 (fun z35 u36 z35r hp37 => ?_)
        obtain ⟨hz9, hu38⟩ := hp37
        have hu38 := hu38.symm
        subst hu38
        rw [if_pos (by decide)] at hz9
        subst hz9
        refine V_if_eq X 116 ⟨by decide, by decide⟩ dX7_stretch_111 (by decide) (fun h => absurd h (by first | decide | omega)) (fun _ => ?_)
        refine V_iconst X dX7_stretch_114 ?_
        exact V_iret X hr rfl ⟨by decide, by decide⟩ (by exact Or.inr (Or.inr (Or.inl ⟨hT, by omega, rfl⟩))) dX7_stretch_115 (by decide) (by decide)
    · skip
      rw [if_neg hT] at hz9
      subst hz9
      refine V_if_eq X 54 ⟨by decide, by decide⟩ dX7_stretch_47 (by decide) (fun h => absurd h (by first | decide | omega)) (fun _ => ?_)
      refine V_iconst X dX7_stretch_50 ?_
      refine V_goto X 103 dX7_stretch_51 (by decide) ?_
      refine V_istore X [(5, .int (iN (1))), (0, .ref (ga g (89))), (1, .int (iN (a))), (2, .int (iN (len))), (3, .int (iN (lim))), (4, .int (iN (drvM σ a n)))] dX7_stretch_103 (by decide) rfl ?_
      refine V_aload_n X 1 rfl dX7_stretch_105 rfl ?_
      refine V_iload X 0 rfl dX7_stretch_106 ?_
      refine V_callV_I X (na := 1) (ci := 7) (b0 := 89) (by decide) (rfl) (by decide) rfl (m_X7_fails g l hl9 σ hR 1 ⟨by decide, by decide⟩) gX7_stretch_X7_fails rfl rfl rfl (by decide +kernel) ⟨Nat.le_of_ble_eq_true rfl, Nat.le_of_ble_eq_true rfl⟩ rfl rfl (Nat.le_of_ble_eq_true rfl) ⟨Nat.le_of_ble_eq_true rfl, Nat.le_of_ble_eq_true rfl⟩ dX7_stretch_108 (fun z39 u40 z39r hp41 => ?_)
      obtain ⟨hz9, hu42⟩ := hp41
      have hu42 := hu42.symm
      subst hu42
      rw [if_pos (by decide)] at hz9
      subst hz9
      refine V_if_eq X 116 ⟨by decide, by decide⟩ dX7_stretch_111 (by decide) (fun h => absurd h (by first | decide | omega)) (fun _ => ?_)
      refine V_iconst X dX7_stretch_114 ?_
      exact V_iret X hr rfl ⟨by decide, by decide⟩ (by exact Or.inr (Or.inl ⟨hT, rfl⟩)) dX7_stretch_115 (by decide) (by decide)
  · skip
    rintro i _ _ hiN ⟨rfl, rfl, -⟩ kk
    refine V_iload X 5 rfl dX7_stretch_6 ?_
    refine V_aload_n X 0 rfl dX7_stretch_8 rfl ?_
    refine V_get X (ci := 7) (89) (by decide) (rfl) (by decide) rfl (fun _ h => List.mem_cons_of_mem _ (List.mem_append_right _ h)) 11 (by decide) (List.mem_of_getElem? (i := 1) rfl) rfl rfl dX7_stretch_9 ?_
    refine V_icmp_ge X 42 ⟨by omega, by omega⟩ (hR _ _) dX7_stretch_12 (by decide) (fun h => absurd h (by omega)) (fun _ => ?_)
    refine V_iload X 4 rfl dX7_stretch_15 ?_
    refine V_aload_n X 0 rfl dX7_stretch_17 rfl ?_
    refine V_get X (ci := 7) (89) (by decide) (rfl) (by decide) rfl (fun _ h => List.mem_cons_of_mem _ (List.mem_append_right _ h)) 17 (by decide) (List.mem_of_getElem? (i := 2) rfl) rfl rfl dX7_stretch_18 ?_
    refine V_iload X 5 rfl dX7_stretch_21 ?_
    refine V_iald X (N := 30) (102) (by decide) (rfl) (rfl) (by decide) (i) (rfl) (by omega) dX7_stretch_23 ?_
    refine V_iload_n X 1 rfl dX7_stretch_24 rfl ?_
    refine V_icmp_ne X 32 (hR _ _) ha dX7_stretch_25 (by decide) (fun q43 => ?_) (fun q43 => ?_)
    · skip
      refine V_iconst X dX7_stretch_32 ?_
      refine V_ior X (z := drvM σ a i) (by rcases drvM_b (σ := σ) (a := a) i with h | h <;> rw [h] <;> decide) dX7_stretch_33 ?_
      refine V_istore X [(4, .int (iN (drvM σ a i))), (0, .ref (ga g (89))), (1, .int (iN (a))), (2, .int (iN (len))), (3, .int (iN (lim))), (5, .int (iN (((i : Nat) : Int))))] dX7_stretch_34 (by decide) rfl ?_
      refine V_iinc X [(5, .int (iN (((i : Nat) : Int) + 1))), (4, .int (iN (drvM σ a i))), (0, .ref (ga g (89))), (1, .int (iN (a))), (2, .int (iN (len))), (3, .int (iN (lim)))] 5 (((i : Nat) : Int) + 1) (rfl) rfl dX7_stretch_36 (by decide) rfl ?_
      refine V_goto X 6 dX7_stretch_39 (by decide) ?_
      refine V_sub (lv' := [(0, .ref (ga g (89))), (1, .int (iN (a))), (2, .int (iN (len))), (3, .int (iN (lim))), (4, .int (iN (drvM σ a i))), (5, .int (iN (((i : Nat) : Int) + 1)))]) [2, 3, 4, 5, 1, 0] rfl ?_
      refine V_lv (congrArg (fun q : Int => ([(0, .ref (ga g (89))), (1, .int (iN (a))), (2, .int (iN (len))), (3, .int (iN (lim))), (4, .int (iN q)), (5, .int (iN (((i : Nat) : Int) + 1)))] : List (Nat × Value))) (show drvM σ a i = drvM σ a (i + 1) from by rw [drvM, if_neg (by omega)])) ?_
      refine V_lv (congrArg (fun q : Int => ([(0, .ref (ga g (89))), (1, .int (iN (a))), (2, .int (iN (len))), (3, .int (iN (lim))), (4, .int (iN (drvM σ a (i + 1)))), (5, .int (iN q))] : List (Nat × Value))) (show ((i : Nat) : Int) + 1 = (((i + 1) : Nat) : Int) from by omega)) ?_
      exact kk _ _ ⟨rfl, rfl, trivial⟩
    · skip
      refine V_iconst X dX7_stretch_28 ?_
      refine V_goto X 33 dX7_stretch_29 (by decide) ?_
      refine V_ior X (z := 1) (by rcases drvM_b (σ := σ) (a := a) i with h | h <;> rw [h] <;> decide) dX7_stretch_33 ?_
      refine V_istore X [(4, .int (iN (1))), (0, .ref (ga g (89))), (1, .int (iN (a))), (2, .int (iN (len))), (3, .int (iN (lim))), (5, .int (iN (((i : Nat) : Int))))] dX7_stretch_34 (by decide) rfl ?_
      refine V_iinc X [(5, .int (iN (((i : Nat) : Int) + 1))), (4, .int (iN (1))), (0, .ref (ga g (89))), (1, .int (iN (a))), (2, .int (iN (len))), (3, .int (iN (lim)))] 5 (((i : Nat) : Int) + 1) (rfl) rfl dX7_stretch_36 (by decide) rfl ?_
      refine V_goto X 6 dX7_stretch_39 (by decide) ?_
      refine V_sub (lv' := [(0, .ref (ga g (89))), (1, .int (iN (a))), (2, .int (iN (len))), (3, .int (iN (lim))), (4, .int (iN (1))), (5, .int (iN (((i : Nat) : Int) + 1)))]) [2, 3, 4, 5, 1, 0] rfl ?_
      refine V_lv (congrArg (fun q : Int => ([(0, .ref (ga g (89))), (1, .int (iN (a))), (2, .int (iN (len))), (3, .int (iN (lim))), (4, .int (iN q)), (5, .int (iN (((i : Nat) : Int) + 1)))] : List (Nat × Value))) (show 1 = drvM σ a (i + 1) from by rw [drvM, if_pos (by omega)])) ?_
      refine V_lv (congrArg (fun q : Int => ([(0, .ref (ga g (89))), (1, .int (iN (a))), (2, .int (iN (len))), (3, .int (iN (lim))), (4, .int (iN (drvM σ a (i + 1)))), (5, .int (iN q))] : List (Nat × Value))) (show ((i : Nat) : Int) + 1 = (((i + 1) : Nat) : Int) from by omega)) ?_
      exact kk _ _ ⟨rfl, rfl, trivial⟩
set_option maxRecDepth 100000 in
set_option maxHeartbeats 4000000 in
theorem m_X7_car (g : Geo) (l : Launch) (hl9 : l.stackTraces = false) (σ : St) (hR : RG σ) (hC4 : 0 ≤ σ.1 89 5 ∧ σ.1 89 5 ≤ 4) (a b d : Int) (ha : R32 a) (hb : R32 b) (hd : R32 d) (c0 : Nat) (hc0 : σ.1 89 5 = (c0 : Int)) : Met l yX7_car wsX7_car ({ frames := 1, cells := 0, slots := 0, locals := 22 }) (va_Pc [.ref (ga g (89)), .int (iN (a)), .int (iN (b)), .int (iN (d))] (World g σ)) (QI g (fun z u => (((1 ≤ a ∧ a ≤ 9) ∧ (1 ≤ b ∧ b ≤ 4) ∧ 0 ≤ d ∧ d ≤ 3) ∧ c0 < 4 ∧ z = σ.1 89 5 ∧ u = carM σ c0 a b d) ∨ (¬ ((1 ≤ a ∧ a ≤ 9) ∧ (1 ≤ b ∧ b ≤ 4) ∧ 0 ≤ d ∧ d ≤ 3) ∧ u = sw σ 89 0 1) ∨ (((1 ≤ a ∧ a ≤ 9) ∧ (1 ≤ b ∧ b ≤ 4) ∧ 0 ≤ d ∧ d ≤ 3) ∧ ¬ c0 < 4 ∧ u = sw σ 89 0 2))) 0 0 (gA g) := by
  refine V_met hl9 (by decide) rfl (Nat.le_of_ble_eq_true rfl) ?_
  intro p9 e9 s9 m9 b9 t9 c9 X hr _
  refine V_lv (lv' := [(0, .ref (ga g (89))), (1, .int (iN (a))), (2, .int (iN (b))), (3, .int (iN (d)))]) rfl ?_
  refine V_aload_n X 0 rfl dX7_car_0 rfl ?_
  refine V_iload_n X 1 rfl dX7_car_1 rfl ?_
  refine V_iconst X dX7_car_2 ?_
  refine V_bipush X (by decide) dX7_car_3 ?_
  refine V_callS_I X (na := 3) (m_X7_in g l hl9 σ a 1 (9) ha ⟨by decide, by decide⟩ ⟨by decide, by decide⟩) gX7_car_X7_in rfl rfl rfl (by decide +kernel) ⟨Nat.le_of_ble_eq_true rfl, Nat.le_of_ble_eq_true rfl⟩ rfl rfl (Nat.le_of_ble_eq_true rfl) ⟨Nat.le_of_ble_eq_true rfl, Nat.le_of_ble_eq_true rfl⟩ dX7_car_5 (fun z1 u2 z1r hp3 => ?_)
  obtain ⟨hz9, hu4⟩ := hp3
  have hu4 := hu4.symm
  subst hu4
  rcases Classical.em (1 ≤ a ∧ a ≤ 9) with hw5 | hw5
  · skip
    rw [if_pos hw5] at hz9
    subst hz9
    refine V_if_eq X 29 ⟨by decide, by decide⟩ dX7_car_8 (by decide) (fun h => absurd h (by first | decide | omega)) (fun _ => ?_)
    refine V_iload_n X 2 rfl dX7_car_11 rfl ?_
    refine V_iconst X dX7_car_12 ?_
    refine V_iconst X dX7_car_13 ?_
    refine V_callS_I X (na := 3) (m_X7_in g l hl9 σ b 1 (4) hb ⟨by decide, by decide⟩ ⟨by decide, by decide⟩) gX7_car_X7_in rfl rfl rfl (by decide +kernel) ⟨Nat.le_of_ble_eq_true rfl, Nat.le_of_ble_eq_true rfl⟩ rfl rfl (Nat.le_of_ble_eq_true rfl) ⟨Nat.le_of_ble_eq_true rfl, Nat.le_of_ble_eq_true rfl⟩ dX7_car_14 (fun z5 u6 z5r hp7 => ?_)
    obtain ⟨hz9, hu8⟩ := hp7
    have hu8 := hu8.symm
    subst hu8
    rcases Classical.em (1 ≤ b ∧ b ≤ 4) with hw14 | hw14
    · skip
      rw [if_pos hw14] at hz9
      subst hz9
      refine V_if_eq X 29 ⟨by decide, by decide⟩ dX7_car_17 (by decide) (fun h => absurd h (by first | decide | omega)) (fun _ => ?_)
      refine V_iload_n X 3 rfl dX7_car_20 rfl ?_
      refine V_iconst X dX7_car_21 ?_
      refine V_iconst X dX7_car_22 ?_
      refine V_callS_I X (na := 3) (m_X7_in g l hl9 σ d 0 (3) hd ⟨by decide, by decide⟩ ⟨by decide, by decide⟩) gX7_car_X7_in rfl rfl rfl (by decide +kernel) ⟨Nat.le_of_ble_eq_true rfl, Nat.le_of_ble_eq_true rfl⟩ rfl rfl (Nat.le_of_ble_eq_true rfl) ⟨Nat.le_of_ble_eq_true rfl, Nat.le_of_ble_eq_true rfl⟩ dX7_car_23 (fun z9 u10 z9r hp11 => ?_)
      obtain ⟨hz9, hu12⟩ := hp11
      have hu12 := hu12.symm
      subst hu12
      rcases Classical.em (0 ≤ d ∧ d ≤ 3) with hw23 | hw23
      · skip
        rw [if_pos hw23] at hz9
        subst hz9
        refine V_if_ne X 33 ⟨by decide, by decide⟩ dX7_car_26 (by decide) (fun _ => ?_) (fun h => absurd h (by first | decide | omega))
        refine V_aload_n X 0 rfl dX7_car_33 rfl ?_
        refine V_get X (ci := 7) (89) (by decide) (rfl) (by decide) rfl (fun _ h => List.mem_cons_of_mem _ (List.mem_append_right _ h)) 5 (by decide) (List.mem_of_getElem? (i := 1) rfl) rfl rfl dX7_car_34 ?_
        refine V_iconst X dX7_car_37 ?_
        refine V_icmp_ne X 45 (hR _ _) ⟨by decide, by decide⟩ dX7_car_38 (by decide) (fun q13 => ?_) (fun q13 => ?_)
        · skip
          refine V_iconst X dX7_car_45 ?_
          refine V_callV_I X (na := 1) (ci := 7) (b0 := 89) (by decide) (rfl) (by decide) rfl (m_X7_fails g l hl9 σ hR 0 ⟨by decide, by decide⟩) gX7_car_X7_fails rfl rfl rfl (by decide +kernel) ⟨Nat.le_of_ble_eq_true rfl, Nat.le_of_ble_eq_true rfl⟩ rfl rfl (Nat.le_of_ble_eq_true rfl) ⟨Nat.le_of_ble_eq_true rfl, Nat.le_of_ble_eq_true rfl⟩ dX7_car_46 (fun z14 u15 z14r hp16 => ?_)
          obtain ⟨hz9, hu17⟩ := hp16
          have hu17 := hu17.symm
          subst hu17
          rw [if_neg (by decide)] at hz9
          subst hz9
          refine V_if_eq X 54 ⟨by decide, by decide⟩ dX7_car_49 (by decide) (fun _ => ?_) (fun h => absurd h (by first | decide | omega))
          refine V_aload_n X 0 rfl dX7_car_54 rfl ?_
          refine V_get X (ci := 7) (89) (by decide) (rfl) (by decide) rfl (fun _ h => List.mem_cons_of_mem _ (List.mem_append_right _ h)) 6 (by decide) (List.mem_of_getElem? (i := 2) rfl) rfl rfl dX7_car_55 ?_
          refine V_aload_n X 0 rfl dX7_car_58 rfl ?_
          refine V_get X (ci := 7) (89) (by decide) (rfl) (by decide) rfl (fun _ h => List.mem_cons_of_mem _ (List.mem_append_right _ h)) 5 (by decide) (List.mem_of_getElem? (i := 1) rfl) rfl rfl dX7_car_59 ?_
          refine V_top (b := σ.1 89 5) (rd_k (by decide)) ?_
          refine V_iload_n X 1 rfl dX7_car_62 rfl ?_
          refine V_iast X (N := 4) (93) (by decide) (rfl) (rfl) (by decide) (c0) (hc0) (by omega) dX7_car_63 ?_
          refine V_aload_n X 0 rfl dX7_car_64 rfl ?_
          refine V_get X (ci := 7) (89) (by decide) (rfl) (by decide) rfl (fun _ h => List.mem_cons_of_mem _ (List.mem_append_right _ h)) 7 (by decide) (List.mem_of_getElem? (i := 3) rfl) rfl rfl dX7_car_65 ?_
          refine V_aload_n X 0 rfl dX7_car_68 rfl ?_
          refine V_get X (ci := 7) (89) (by decide) (rfl) (by decide) rfl (fun _ h => List.mem_cons_of_mem _ (List.mem_append_right _ h)) 5 (by decide) (List.mem_of_getElem? (i := 1) rfl) rfl rfl dX7_car_69 ?_
          refine V_top (b := σ.1 89 5) (Eq.trans (rd_n (by decide)) (rd_k (by decide))) ?_
          refine V_iload_n X 2 rfl dX7_car_72 rfl ?_
          refine V_iast X (N := 4) (94) (by decide) (rfl) (rfl) (by decide) (c0) (hc0) (by omega) dX7_car_73 ?_
          refine V_aload_n X 0 rfl dX7_car_74 rfl ?_
          refine V_get X (ci := 7) (89) (by decide) (rfl) (by decide) rfl (fun _ h => List.mem_cons_of_mem _ (List.mem_append_right _ h)) 8 (by decide) (List.mem_of_getElem? (i := 4) rfl) rfl rfl dX7_car_75 ?_
          refine V_aload_n X 0 rfl dX7_car_78 rfl ?_
          refine V_get X (ci := 7) (89) (by decide) (rfl) (by decide) rfl (fun _ h => List.mem_cons_of_mem _ (List.mem_append_right _ h)) 5 (by decide) (List.mem_of_getElem? (i := 1) rfl) rfl rfl dX7_car_79 ?_
          refine V_top (b := σ.1 89 5) (Eq.trans (rd_n (by decide)) (Eq.trans (rd_n (by decide)) (rd_k (by decide)))) ?_
          refine V_iload_n X 3 rfl dX7_car_82 rfl ?_
          refine V_iast X (N := 4) (95) (by decide) (rfl) (rfl) (by decide) (c0) (hc0) (by omega) dX7_car_83 ?_
          refine V_aload_n X 0 rfl dX7_car_84 rfl ?_
          refine V_dup X rfl dX7_car_85 ?_
          refine V_get X (ci := 7) (89) (by decide) (rfl) (by decide) rfl (fun _ h => List.mem_cons_of_mem _ (List.mem_append_right _ h)) 5 (by decide) (List.mem_of_getElem? (i := 1) rfl) rfl rfl dX7_car_86 ?_
          refine V_top (b := σ.1 89 5) (Eq.trans (rd_n (by decide)) (Eq.trans (rd_n (by decide)) (Eq.trans (rd_n (by decide)) (rd_k (by decide))))) ?_
          refine V_iconst X dX7_car_89 ?_
          refine V_iadd X dX7_car_90 ?_
          refine V_put X (ci := 7) (89) (by decide) (rfl) (by decide) rfl (fun _ h => List.mem_cons_of_mem _ (List.mem_append_right _ h)) 5 (by decide) (List.mem_of_getElem? (i := 1) rfl) rfl tyX7 tyX7_ok nmX7 rfl rfl rfl rfl rfl (Nat.le_of_ble_eq_true rfl) dX7_car_91 ?_
          refine V_aload_n X 0 rfl dX7_car_94 rfl ?_
          refine V_get X (ci := 7) (89) (by decide) (rfl) (by decide) rfl (fun _ h => List.mem_cons_of_mem _ (List.mem_append_right _ h)) 5 (by decide) (List.mem_of_getElem? (i := 1) rfl) rfl rfl dX7_car_95 ?_
          refine V_top (b := (σ.1 89 5) + 1) rd_s ?_
          refine V_iconst X dX7_car_98 ?_
          refine V_isub X dX7_car_99 ?_
          refine V_top (b := σ.1 89 5) (by omega) ?_
          exact V_iret X hr rfl (hR _ _) (by exact Or.inl ⟨⟨hw5, hw14, hw23⟩, by omega, rfl, rfl⟩) dX7_car_100 (by decide) (by decide)
        · skip
          refine V_iconst X dX7_car_41 ?_
          refine V_goto X 46 dX7_car_42 (by decide) ?_
          refine V_callV_I X (na := 1) (ci := 7) (b0 := 89) (by decide) (rfl) (by decide) rfl (m_X7_fails g l hl9 σ hR 2 ⟨by decide, by decide⟩) gX7_car_X7_fails rfl rfl rfl (by decide +kernel) ⟨Nat.le_of_ble_eq_true rfl, Nat.le_of_ble_eq_true rfl⟩ rfl rfl (Nat.le_of_ble_eq_true rfl) ⟨Nat.le_of_ble_eq_true rfl, Nat.le_of_ble_eq_true rfl⟩ dX7_car_46 (fun z18 u19 z18r hp20 => ?_)
          obtain ⟨hz9, hu21⟩ := hp20
          have hu21 := hu21.symm
          subst hu21
          rw [if_pos (by decide)] at hz9
          subst hz9
          refine V_if_eq X 54 ⟨by decide, by decide⟩ dX7_car_49 (by decide) (fun h => absurd h (by first | decide | omega)) (fun _ => ?_)
          refine V_iconst X dX7_car_52 ?_
          exact V_iret X hr rfl ⟨by decide, by decide⟩ (by exact Or.inr (Or.inr ⟨⟨hw5, hw14, hw23⟩, by omega, rfl⟩)) dX7_car_53 (by decide) (by decide)
      · skip
        rw [if_neg hw23] at hz9
        subst hz9
        refine V_if_ne X 33 ⟨by decide, by decide⟩ dX7_car_26 (by decide) (fun h => absurd h (by first | decide | omega)) (fun _ => ?_)
        refine V_iconst X dX7_car_29 ?_
        refine V_goto X 46 dX7_car_30 (by decide) ?_
        refine V_callV_I X (na := 1) (ci := 7) (b0 := 89) (by decide) (rfl) (by decide) rfl (m_X7_fails g l hl9 σ hR 1 ⟨by decide, by decide⟩) gX7_car_X7_fails rfl rfl rfl (by decide +kernel) ⟨Nat.le_of_ble_eq_true rfl, Nat.le_of_ble_eq_true rfl⟩ rfl rfl (Nat.le_of_ble_eq_true rfl) ⟨Nat.le_of_ble_eq_true rfl, Nat.le_of_ble_eq_true rfl⟩ dX7_car_46 (fun z22 u23 z22r hp24 => ?_)
        obtain ⟨hz9, hu25⟩ := hp24
        have hu25 := hu25.symm
        subst hu25
        rw [if_pos (by decide)] at hz9
        subst hz9
        refine V_if_eq X 54 ⟨by decide, by decide⟩ dX7_car_49 (by decide) (fun h => absurd h (by first | decide | omega)) (fun _ => ?_)
        refine V_iconst X dX7_car_52 ?_
        exact V_iret X hr rfl ⟨by decide, by decide⟩ (by exact Or.inr (Or.inl ⟨by omega, rfl⟩)) dX7_car_53 (by decide) (by decide)
    · skip
      rw [if_neg hw14] at hz9
      subst hz9
      refine V_if_eq X 29 ⟨by decide, by decide⟩ dX7_car_17 (by decide) (fun _ => ?_) (fun h => absurd h (by first | decide | omega))
      refine V_iconst X dX7_car_29 ?_
      refine V_goto X 46 dX7_car_30 (by decide) ?_
      refine V_callV_I X (na := 1) (ci := 7) (b0 := 89) (by decide) (rfl) (by decide) rfl (m_X7_fails g l hl9 σ hR 1 ⟨by decide, by decide⟩) gX7_car_X7_fails rfl rfl rfl (by decide +kernel) ⟨Nat.le_of_ble_eq_true rfl, Nat.le_of_ble_eq_true rfl⟩ rfl rfl (Nat.le_of_ble_eq_true rfl) ⟨Nat.le_of_ble_eq_true rfl, Nat.le_of_ble_eq_true rfl⟩ dX7_car_46 (fun z26 u27 z26r hp28 => ?_)
      obtain ⟨hz9, hu29⟩ := hp28
      have hu29 := hu29.symm
      subst hu29
      rw [if_pos (by decide)] at hz9
      subst hz9
      refine V_if_eq X 54 ⟨by decide, by decide⟩ dX7_car_49 (by decide) (fun h => absurd h (by first | decide | omega)) (fun _ => ?_)
      refine V_iconst X dX7_car_52 ?_
      exact V_iret X hr rfl ⟨by decide, by decide⟩ (by exact Or.inr (Or.inl ⟨by omega, rfl⟩)) dX7_car_53 (by decide) (by decide)
  · skip
    rw [if_neg hw5] at hz9
    subst hz9
    refine V_if_eq X 29 ⟨by decide, by decide⟩ dX7_car_8 (by decide) (fun _ => ?_) (fun h => absurd h (by first | decide | omega))
    refine V_iconst X dX7_car_29 ?_
    refine V_goto X 46 dX7_car_30 (by decide) ?_
    refine V_callV_I X (na := 1) (ci := 7) (b0 := 89) (by decide) (rfl) (by decide) rfl (m_X7_fails g l hl9 σ hR 1 ⟨by decide, by decide⟩) gX7_car_X7_fails rfl rfl rfl (by decide +kernel) ⟨Nat.le_of_ble_eq_true rfl, Nat.le_of_ble_eq_true rfl⟩ rfl rfl (Nat.le_of_ble_eq_true rfl) ⟨Nat.le_of_ble_eq_true rfl, Nat.le_of_ble_eq_true rfl⟩ dX7_car_46 (fun z30 u31 z30r hp32 => ?_)
    obtain ⟨hz9, hu33⟩ := hp32
    have hu33 := hu33.symm
    subst hu33
    rw [if_pos (by decide)] at hz9
    subst hz9
    refine V_if_eq X 54 ⟨by decide, by decide⟩ dX7_car_49 (by decide) (fun h => absurd h (by first | decide | omega)) (fun _ => ?_)
    refine V_iconst X dX7_car_52 ?_
    exact V_iret X hr rfl ⟨by decide, by decide⟩ (by exact Or.inr (Or.inl ⟨by omega, rfl⟩)) dX7_car_53 (by decide) (by decide)
set_option maxRecDepth 100000 in
set_option maxHeartbeats 4000000 in
theorem m_X7_lengthOf (g : Geo) (l : Launch) (hl9 : l.stackTraces = false) (σ : St) (hR : RG σ) (hTM : TM σ) (hT4 : 0 ≤ σ.1 89 1 ∧ σ.1 89 1 ≤ 4) (a : Int) (ha : R32 a) : Met l yX7_lengthOf wsX7_lengthOf ({ frames := 2, cells := 0, slots := 0, locals := 43 }) (va_Pc [.ref (ga g (89)), .int (iN (a))] (World g σ)) (QI g (fun z u => ((0 ≤ a ∧ a < σ.1 89 1) ∧ z = lenM σ a.toNat ∧ u = sw σ 89 0 0) ∨ (¬ (0 ≤ a ∧ a < σ.1 89 1) ∧ u = sw σ 89 0 1))) 0 0 (gA g) := by
  refine V_met hl9 (by decide) rfl (Nat.le_of_ble_eq_true rfl) ?_
  intro p9 e9 s9 m9 b9 t9 c9 X hr _
  refine V_lv (lv' := [(0, .ref (ga g (89))), (1, .int (iN (a)))]) rfl ?_
  refine V_aload_n X 0 rfl dX7_lengthOf_0 rfl ?_
  refine V_aload_n X 0 rfl dX7_lengthOf_1 rfl ?_
  refine V_iload_n X 1 rfl dX7_lengthOf_2 rfl ?_
  refine V_callV_I X (na := 1) (ci := 7) (b0 := 89) (by decide) (rfl) (by decide) rfl (m_X7_isNoTrack g l hl9 σ hR a ha hT4) gX7_lengthOf_X7_isNoTrack rfl rfl rfl (by decide +kernel) ⟨Nat.le_of_ble_eq_true rfl, Nat.le_of_ble_eq_true rfl⟩ rfl rfl (Nat.le_of_ble_eq_true rfl) ⟨Nat.le_of_ble_eq_true rfl, Nat.le_of_ble_eq_true rfl⟩ dX7_lengthOf_3 (fun z1 u2 z1r hp3 => ?_)
  obtain ⟨hz9, hu4⟩ := hp3
  have hu4 := hu4.symm
  subst hu4
  rcases Classical.em (0 ≤ a ∧ a < σ.1 89 1) with hT | hT
  · skip
    rw [if_pos hT] at hz9
    subst hz9
    refine V_if_eq X 13 ⟨by decide, by decide⟩ dX7_lengthOf_6 (by decide) (fun _ => ?_) (fun h => absurd h (by first | decide | omega))
    refine V_iconst X dX7_lengthOf_13 ?_
    refine V_callV_I X (na := 1) (ci := 7) (b0 := 89) (by decide) (rfl) (by decide) rfl (m_X7_fails g l hl9 σ hR 0 ⟨by decide, by decide⟩) gX7_lengthOf_X7_fails rfl rfl rfl (by decide +kernel) ⟨Nat.le_of_ble_eq_true rfl, Nat.le_of_ble_eq_true rfl⟩ rfl rfl (Nat.le_of_ble_eq_true rfl) ⟨Nat.le_of_ble_eq_true rfl, Nat.le_of_ble_eq_true rfl⟩ dX7_lengthOf_14 (fun z5 u6 z5r hp7 => ?_)
    obtain ⟨hz9, hu8⟩ := hp7
    have hu8 := hu8.symm
    subst hu8
    rw [if_neg (by decide)] at hz9
    subst hz9
    refine V_if_eq X 24 ⟨by decide, by decide⟩ dX7_lengthOf_17 (by decide) (fun _ => ?_) (fun h => absurd h (by first | decide | omega))
    refine V_aload_n X 0 rfl dX7_lengthOf_24 rfl ?_
    refine V_iload_n X 1 rfl dX7_lengthOf_25 rfl ?_
    refine V_callV_I X (na := 1) (ci := 7) (b0 := 89) (by decide) (rfl) (by decide) rfl (m_X7_lengthNow g l hl9 (sw σ 89 0 0) (hR.sw _ _ ⟨by decide, by decide⟩) hTM.code a (by omega)) gX7_lengthOf_X7_lengthNow rfl rfl rfl (by decide +kernel) ⟨Nat.le_of_ble_eq_true rfl, Nat.le_of_ble_eq_true rfl⟩ rfl rfl (Nat.le_of_ble_eq_true rfl) ⟨Nat.le_of_ble_eq_true rfl, Nat.le_of_ble_eq_true rfl⟩ dX7_lengthOf_26 (fun z9 u10 z9r hp11 => ?_)
    obtain ⟨hz, hu12⟩ := hp11
    have hu12 := hu12.symm
    subst hu12
    exact V_iret X hr rfl z9r (by exact Or.inl ⟨hT, hz, rfl⟩) dX7_lengthOf_29 (by decide) (by decide)
  · skip
    rw [if_neg hT] at hz9
    subst hz9
    refine V_if_eq X 13 ⟨by decide, by decide⟩ dX7_lengthOf_6 (by decide) (fun h => absurd h (by first | decide | omega)) (fun _ => ?_)
    refine V_iconst X dX7_lengthOf_9 ?_
    refine V_goto X 14 dX7_lengthOf_10 (by decide) ?_
    refine V_callV_I X (na := 1) (ci := 7) (b0 := 89) (by decide) (rfl) (by decide) rfl (m_X7_fails g l hl9 σ hR 1 ⟨by decide, by decide⟩) gX7_lengthOf_X7_fails rfl rfl rfl (by decide +kernel) ⟨Nat.le_of_ble_eq_true rfl, Nat.le_of_ble_eq_true rfl⟩ rfl rfl (Nat.le_of_ble_eq_true rfl) ⟨Nat.le_of_ble_eq_true rfl, Nat.le_of_ble_eq_true rfl⟩ dX7_lengthOf_14 (fun z13 u14 z13r hp15 => ?_)
    obtain ⟨hz9, hu16⟩ := hp15
    have hu16 := hu16.symm
    subst hu16
    rw [if_pos (by decide)] at hz9
    subst hz9
    refine V_if_eq X 24 ⟨by decide, by decide⟩ dX7_lengthOf_17 (by decide) (fun h => absurd h (by first | decide | omega)) (fun _ => ?_)
    refine V_iconst X dX7_lengthOf_20 ?_
    refine V_goto X 29 dX7_lengthOf_21 (by decide) ?_
    exact V_iret X hr rfl ⟨by decide, by decide⟩ (by exact Or.inr ⟨hT, rfl⟩) dX7_lengthOf_29 (by decide) (by decide)
set_option maxRecDepth 100000 in
set_option maxHeartbeats 4000000 in
theorem m_X7_limitNow (g : Geo) (l : Launch) (hl9 : l.stackTraces = false) (σ : St) (hR : RG σ) (hTM : TM σ) (a p : Int) (ha1 : 0 ≤ a ∧ a < 4) (hp0 : 0 ≤ p) (hpl : p < lenM σ a.toNat) : Met l yX7_limitNow wsX7_limitNow ({ frames := 0, cells := 0, slots := 0, locals := 0 }) (va_Pc [.ref (ga g (89)), .int (iN (a)), .int (iN (p))] (World g σ)) (QI g (fun z u => z = limM σ a.toNat p ∧ u = σ)) 0 0 (gA g) := by
  refine V_met hl9 (by decide) rfl (Nat.le_of_ble_eq_true rfl) ?_
  intro p9 e9 s9 m9 b9 t9 c9 X hr _
  have hk := hTM.1 a.toNat (by omega)
  have hlb := (sumF_b2 (f := lenRow σ a.toNat) (c := 30) (m := 12) (hTM.row (by omega)) (σ.1 90 a.toNat).toNat (by omega))
  have hp3 : p < 100000 := by unfold lenM at hpl; omega
  obtain ⟨kx, hx1, hx2, hx3, hx4⟩ := limM_at hp0 hpl
  refine V_lv (lv' := [(0, .ref (ga g (89))), (1, .int (iN (a))), (2, .int (iN (p)))]) rfl ?_
  refine V_iload_n X 2 rfl dX7_limitNow_0 rfl ?_
  refine V_istore_n X [(3, .int (iN (p))), (0, .ref (ga g (89))), (1, .int (iN (a))), (2, .int (iN (p)))] dX7_limitNow_1 rfl (by decide) rfl ?_
  refine V_iconst X dX7_limitNow_2 ?_
  refine V_istore X [(4, .int (iN (0))), (3, .int (iN (p))), (0, .ref (ga g (89))), (1, .int (iN (a))), (2, .int (iN (p)))] dX7_limitNow_3 (by decide) rfl ?_
  refine V_sub (lv' := [(0, .ref (ga g (89))), (1, .int (iN (a))), (2, .int (iN (p))), (3, .int (iN (p))), (4, .int (iN (0)))]) [2, 3, 4, 1, 0] rfl ?_
  refine V_lv (congrArg (fun q : Int => ([(0, .ref (ga g (89))), (1, .int (iN (a))), (2, .int (iN (p))), (3, .int (iN q)), (4, .int (iN (0)))] : List (Nat × Value))) (show p = p - sumF (lenRow σ a.toNat) 0 from by show p = p - 0; omega)) ?_
  refine V_up (N := kx) (fun (i : Nat) (u : St) (lw : List (Nat × Value)) => σ = u ∧ [(0, .ref (ga g (89))), (1, .int (iN (a))), (2, .int (iN (p))), (3, .int (iN (p - sumF (lenRow σ a.toNat) i))), (4, .int (iN (((i : Nat) : Int))))] = lw ∧ (True)) (i0 := 0) (Nat.zero_le _) ⟨rfl, rfl, trivial⟩ ?_ ?_
  · skip
    rintro _ _ ⟨rfl, rfl, -⟩
    have hsb := sumF_b2 (f := lenRow σ a.toNat) (c := 30) (m := 12) (hTM.row (by omega)) kx (by omega)
    refine V_iload_n X 3 rfl dX7_limitNow_5 rfl ?_
    refine V_aload_n X 0 rfl dX7_limitNow_6 rfl ?_
    refine V_get X (ci := 7) (89) (by decide) (rfl) (by decide) rfl (fun _ h => List.mem_cons_of_mem _ (List.mem_append_right _ h)) 3 (by decide) (List.mem_of_getElem? (i := 1) rfl) rfl rfl dX7_limitNow_7 ?_
    refine V_bipush X (by decide) dX7_limitNow_10 ?_
    refine V_iload_n X 1 rfl dX7_limitNow_12 rfl ?_
    refine V_imul X dX7_limitNow_13 ?_
    refine V_iload X 4 rfl dX7_limitNow_14 ?_
    refine V_iadd X dX7_limitNow_16 ?_
    refine V_iald X (N := 48) (91) (by decide) (rfl) (rfl) (by decide) (12 * a.toNat + kx) (by omega) (by omega) dX7_limitNow_17 ?_
    refine V_icmp_lt X 42 ⟨by omega, by omega⟩ (hR _ _) dX7_limitNow_18 (by decide) (fun _ => ?_) (fun h => absurd h (by omega))
    refine V_aload_n X 0 rfl dX7_limitNow_42 rfl ?_
    refine V_get X (ci := 7) (89) (by decide) (rfl) (by decide) rfl (fun _ h => List.mem_cons_of_mem _ (List.mem_append_right _ h)) 4 (by decide) (List.mem_of_getElem? (i := 2) rfl) rfl rfl dX7_limitNow_43 ?_
    refine V_bipush X (by decide) dX7_limitNow_46 ?_
    refine V_iload_n X 1 rfl dX7_limitNow_48 rfl ?_
    refine V_imul X dX7_limitNow_49 ?_
    refine V_iload X 4 rfl dX7_limitNow_50 ?_
    refine V_iadd X dX7_limitNow_52 ?_
    refine V_iald X (N := 48) (92) (by decide) (rfl) (rfl) (by decide) (12 * a.toNat + kx) (by omega) (by omega) dX7_limitNow_53 ?_
    exact V_iret X hr rfl (hR _ _) (by exact ⟨hx4.symm, rfl⟩) dX7_limitNow_54 (by decide) (by decide)
  · skip
    rintro i _ _ hiN ⟨rfl, rfl, -⟩ kk
    have hsb := sumF_b2 (f := lenRow σ a.toNat) (c := 30) (m := 12) (hTM.row (by omega)) i (by omega)
    have hxi := hx2 i hiN
    refine V_iload_n X 3 rfl dX7_limitNow_5 rfl ?_
    refine V_aload_n X 0 rfl dX7_limitNow_6 rfl ?_
    refine V_get X (ci := 7) (89) (by decide) (rfl) (by decide) rfl (fun _ h => List.mem_cons_of_mem _ (List.mem_append_right _ h)) 3 (by decide) (List.mem_of_getElem? (i := 1) rfl) rfl rfl dX7_limitNow_7 ?_
    refine V_bipush X (by decide) dX7_limitNow_10 ?_
    refine V_iload_n X 1 rfl dX7_limitNow_12 rfl ?_
    refine V_imul X dX7_limitNow_13 ?_
    refine V_iload X 4 rfl dX7_limitNow_14 ?_
    refine V_iadd X dX7_limitNow_16 ?_
    refine V_iald X (N := 48) (91) (by decide) (rfl) (rfl) (by decide) (12 * a.toNat + i) (by omega) (by omega) dX7_limitNow_17 ?_
    refine V_icmp_lt X 42 ⟨by omega, by omega⟩ (hR _ _) dX7_limitNow_18 (by decide) (fun h => absurd h (by omega)) (fun _ => ?_)
    refine V_iload_n X 3 rfl dX7_limitNow_21 rfl ?_
    refine V_aload_n X 0 rfl dX7_limitNow_22 rfl ?_
    refine V_get X (ci := 7) (89) (by decide) (rfl) (by decide) rfl (fun _ h => List.mem_cons_of_mem _ (List.mem_append_right _ h)) 3 (by decide) (List.mem_of_getElem? (i := 1) rfl) rfl rfl dX7_limitNow_23 ?_
    refine V_bipush X (by decide) dX7_limitNow_26 ?_
    refine V_iload_n X 1 rfl dX7_limitNow_28 rfl ?_
    refine V_imul X dX7_limitNow_29 ?_
    refine V_iload X 4 rfl dX7_limitNow_30 ?_
    refine V_iadd X dX7_limitNow_32 ?_
    refine V_iald X (N := 48) (91) (by decide) (rfl) (rfl) (by decide) (12 * a.toNat + i) (by omega) (by omega) dX7_limitNow_33 ?_
    refine V_isub X dX7_limitNow_34 ?_
    refine V_istore_n X [(3, .int (iN ((p - sumF (lenRow σ a.toNat) i) - (σ.1 (91) (12 * a.toNat + i))))), (0, .ref (ga g (89))), (1, .int (iN (a))), (2, .int (iN (p))), (4, .int (iN (((i : Nat) : Int))))] dX7_limitNow_35 rfl (by decide) rfl ?_
    refine V_iinc X [(4, .int (iN (((i : Nat) : Int) + 1))), (3, .int (iN ((p - sumF (lenRow σ a.toNat) i) - (σ.1 (91) (12 * a.toNat + i))))), (0, .ref (ga g (89))), (1, .int (iN (a))), (2, .int (iN (p)))] 4 (((i : Nat) : Int) + 1) (rfl) rfl dX7_limitNow_36 (by decide) rfl ?_
    refine V_goto X 5 dX7_limitNow_39 (by decide) ?_
    refine V_sub (lv' := [(0, .ref (ga g (89))), (1, .int (iN (a))), (2, .int (iN (p))), (3, .int (iN ((p - sumF (lenRow σ a.toNat) i) - (σ.1 (91) (12 * a.toNat + i))))), (4, .int (iN (((i : Nat) : Int) + 1)))]) [2, 3, 4, 1, 0] rfl ?_
    refine V_lv (congrArg (fun q : Int => ([(0, .ref (ga g (89))), (1, .int (iN (a))), (2, .int (iN (p))), (3, .int (iN q)), (4, .int (iN (((i : Nat) : Int) + 1)))] : List (Nat × Value))) (show (p - sumF (lenRow σ a.toNat) i) - (σ.1 (91) (12 * a.toNat + i)) = p - sumF (lenRow σ a.toNat) (i + 1) from by show _ = p - (sumF (lenRow σ a.toNat) i + σ.1 91 (12 * a.toNat + i)); omega)) ?_
    refine V_lv (congrArg (fun q : Int => ([(0, .ref (ga g (89))), (1, .int (iN (a))), (2, .int (iN (p))), (3, .int (iN (p - sumF (lenRow σ a.toNat) (i + 1)))), (4, .int (iN q))] : List (Nat × Value))) (show ((i : Nat) : Int) + 1 = (((i + 1) : Nat) : Int) from by omega)) ?_
    exact kk _ _ ⟨rfl, rfl, trivial⟩
set_option maxRecDepth 100000 in
set_option maxHeartbeats 4000000 in
theorem m_X7_limitAt (g : Geo) (l : Launch) (hl9 : l.stackTraces = false) (σ : St) (hR : RG σ) (hTM : TM σ) (hT4 : 0 ≤ σ.1 89 1 ∧ σ.1 89 1 ≤ 4) (a p : Int) (ha : R32 a) (hp0 : R32 p) : Met l yX7_limitAt wsX7_limitAt ({ frames := 2, cells := 0, slots := 0, locals := 43 }) (va_Pc [.ref (ga g (89)), .int (iN (a)), .int (iN (p))] (World g σ)) (QI g (fun z u => ((0 ≤ a ∧ a < σ.1 89 1) ∧ (0 ≤ p ∧ p < lenM σ a.toNat) ∧ z = limM σ a.toNat p ∧ u = sw σ 89 0 0) ∨ (¬ (0 ≤ a ∧ a < σ.1 89 1) ∧ u = sw σ 89 0 1) ∨ ((0 ≤ a ∧ a < σ.1 89 1) ∧ ¬ (0 ≤ p ∧ p < lenM σ a.toNat) ∧ u = sw σ 89 0 2))) 0 0 (gA g) := by
  refine V_met hl9 (by decide) rfl (Nat.le_of_ble_eq_true rfl) ?_
  intro p9 e9 s9 m9 b9 t9 c9 X hr _
  refine V_lv (lv' := [(0, .ref (ga g (89))), (1, .int (iN (a))), (2, .int (iN (p)))]) rfl ?_
  refine V_aload_n X 0 rfl dX7_limitAt_0 rfl ?_
  refine V_aload_n X 0 rfl dX7_limitAt_1 rfl ?_
  refine V_iload_n X 1 rfl dX7_limitAt_2 rfl ?_
  refine V_callV_I X (na := 1) (ci := 7) (b0 := 89) (by decide) (rfl) (by decide) rfl (m_X7_isNoTrack g l hl9 σ hR a ha hT4) gX7_limitAt_X7_isNoTrack rfl rfl rfl (by decide +kernel) ⟨Nat.le_of_ble_eq_true rfl, Nat.le_of_ble_eq_true rfl⟩ rfl rfl (Nat.le_of_ble_eq_true rfl) ⟨Nat.le_of_ble_eq_true rfl, Nat.le_of_ble_eq_true rfl⟩ dX7_limitAt_3 (fun z1 u2 z1r hp3 => ?_)
  obtain ⟨hz9, hu4⟩ := hp3
  have hu4 := hu4.symm
  subst hu4
  rcases Classical.em (0 ≤ a ∧ a < σ.1 89 1) with hT | hT
  · skip
    rw [if_pos hT] at hz9
    subst hz9
    refine V_if_eq X 13 ⟨by decide, by decide⟩ dX7_limitAt_6 (by decide) (fun _ => ?_) (fun h => absurd h (by first | decide | omega))
    refine V_iload_n X 2 rfl dX7_limitAt_13 rfl ?_
    refine V_iconst X dX7_limitAt_14 ?_
    refine V_aload_n X 0 rfl dX7_limitAt_15 rfl ?_
    refine V_iload_n X 1 rfl dX7_limitAt_16 rfl ?_
    refine V_callV_I X (na := 1) (ci := 7) (b0 := 89) (by decide) (rfl) (by decide) rfl (m_X7_lengthNow g l hl9 σ hR hTM a (by omega)) gX7_limitAt_X7_lengthNow rfl rfl rfl (by decide +kernel) ⟨Nat.le_of_ble_eq_true rfl, Nat.le_of_ble_eq_true rfl⟩ rfl rfl (Nat.le_of_ble_eq_true rfl) ⟨Nat.le_of_ble_eq_true rfl, Nat.le_of_ble_eq_true rfl⟩ dX7_limitAt_17 (fun z5 u6 z5r hp7 => ?_)
    obtain ⟨hz, hu8⟩ := hp7
    have hu8 := hu8.symm
    subst hu8
    subst hz
    have hlb := lenM_b hTM (t := a.toNat) (by omega)
    refine V_iconst X dX7_limitAt_20 ?_
    refine V_isub X dX7_limitAt_21 ?_
    refine V_top (b := lenM σ a.toNat - 1) (rfl) ?_
    refine V_callS_I X (na := 3) (m_X7_in g l hl9 σ p 0 (lenM σ a.toNat - 1) hp0 ⟨by decide, by decide⟩ ⟨by omega, by omega⟩) gX7_limitAt_X7_in rfl rfl rfl (by decide +kernel) ⟨Nat.le_of_ble_eq_true rfl, Nat.le_of_ble_eq_true rfl⟩ rfl rfl (Nat.le_of_ble_eq_true rfl) ⟨Nat.le_of_ble_eq_true rfl, Nat.le_of_ble_eq_true rfl⟩ dX7_limitAt_22 (fun z9 u10 z9r hp11 => ?_)
    obtain ⟨hz9, hu12⟩ := hp11
    have hu12 := hu12.symm
    subst hu12
    rcases Classical.em (0 ≤ p ∧ p ≤ lenM σ a.toNat - 1) with hw22 | hw22
    · skip
      rw [if_pos hw22] at hz9
      subst hz9
      refine V_if_ne X 32 ⟨by decide, by decide⟩ dX7_limitAt_25 (by decide) (fun _ => ?_) (fun h => absurd h (by first | decide | omega))
      refine V_iconst X dX7_limitAt_32 ?_
      refine V_callV_I X (na := 1) (ci := 7) (b0 := 89) (by decide) (rfl) (by decide) rfl (m_X7_fails g l hl9 σ hR 0 ⟨by decide, by decide⟩) gX7_limitAt_X7_fails rfl rfl rfl (by decide +kernel) ⟨Nat.le_of_ble_eq_true rfl, Nat.le_of_ble_eq_true rfl⟩ rfl rfl (Nat.le_of_ble_eq_true rfl) ⟨Nat.le_of_ble_eq_true rfl, Nat.le_of_ble_eq_true rfl⟩ dX7_limitAt_33 (fun z13 u14 z13r hp15 => ?_)
      obtain ⟨hz9, hu16⟩ := hp15
      have hu16 := hu16.symm
      subst hu16
      rw [if_neg (by decide)] at hz9
      subst hz9
      refine V_if_eq X 43 ⟨by decide, by decide⟩ dX7_limitAt_36 (by decide) (fun _ => ?_) (fun h => absurd h (by first | decide | omega))
      refine V_aload_n X 0 rfl dX7_limitAt_43 rfl ?_
      refine V_iload_n X 1 rfl dX7_limitAt_44 rfl ?_
      refine V_iload_n X 2 rfl dX7_limitAt_45 rfl ?_
      refine V_callV_I X (na := 2) (ci := 7) (b0 := 89) (by decide) (rfl) (by decide) rfl (m_X7_limitNow g l hl9 (sw σ 89 0 0) (hR.sw _ _ ⟨by decide, by decide⟩) hTM.code a p (by omega) (by omega) (by show p < lenM σ a.toNat; omega)) gX7_limitAt_X7_limitNow rfl rfl rfl (by decide +kernel) ⟨Nat.le_of_ble_eq_true rfl, Nat.le_of_ble_eq_true rfl⟩ rfl rfl (Nat.le_of_ble_eq_true rfl) ⟨Nat.le_of_ble_eq_true rfl, Nat.le_of_ble_eq_true rfl⟩ dX7_limitAt_46 (fun z17 u18 z17r hp19 => ?_)
      obtain ⟨hz, hu20⟩ := hp19
      have hu20 := hu20.symm
      subst hu20
      exact V_iret X hr rfl z17r (by exact Or.inl ⟨hT, by omega, hz, rfl⟩) dX7_limitAt_49 (by decide) (by decide)
    · skip
      rw [if_neg hw22] at hz9
      subst hz9
      refine V_if_ne X 32 ⟨by decide, by decide⟩ dX7_limitAt_25 (by decide) (fun h => absurd h (by first | decide | omega)) (fun _ => ?_)
      refine V_iconst X dX7_limitAt_28 ?_
      refine V_goto X 33 dX7_limitAt_29 (by decide) ?_
      refine V_callV_I X (na := 1) (ci := 7) (b0 := 89) (by decide) (rfl) (by decide) rfl (m_X7_fails g l hl9 σ hR 2 ⟨by decide, by decide⟩) gX7_limitAt_X7_fails rfl rfl rfl (by decide +kernel) ⟨Nat.le_of_ble_eq_true rfl, Nat.le_of_ble_eq_true rfl⟩ rfl rfl (Nat.le_of_ble_eq_true rfl) ⟨Nat.le_of_ble_eq_true rfl, Nat.le_of_ble_eq_true rfl⟩ dX7_limitAt_33 (fun z21 u22 z21r hp23 => ?_)
      obtain ⟨hz9, hu24⟩ := hp23
      have hu24 := hu24.symm
      subst hu24
      rw [if_pos (by decide)] at hz9
      subst hz9
      refine V_if_eq X 43 ⟨by decide, by decide⟩ dX7_limitAt_36 (by decide) (fun h => absurd h (by first | decide | omega)) (fun _ => ?_)
      refine V_iconst X dX7_limitAt_39 ?_
      refine V_goto X 49 dX7_limitAt_40 (by decide) ?_
      exact V_iret X hr rfl ⟨by decide, by decide⟩ (by exact Or.inr (Or.inr ⟨hT, by omega, rfl⟩)) dX7_limitAt_49 (by decide) (by decide)
  · skip
    rw [if_neg hT] at hz9
    subst hz9
    refine V_if_eq X 13 ⟨by decide, by decide⟩ dX7_limitAt_6 (by decide) (fun h => absurd h (by first | decide | omega)) (fun _ => ?_)
    refine V_iconst X dX7_limitAt_9 ?_
    refine V_goto X 33 dX7_limitAt_10 (by decide) ?_
    refine V_callV_I X (na := 1) (ci := 7) (b0 := 89) (by decide) (rfl) (by decide) rfl (m_X7_fails g l hl9 σ hR 1 ⟨by decide, by decide⟩) gX7_limitAt_X7_fails rfl rfl rfl (by decide +kernel) ⟨Nat.le_of_ble_eq_true rfl, Nat.le_of_ble_eq_true rfl⟩ rfl rfl (Nat.le_of_ble_eq_true rfl) ⟨Nat.le_of_ble_eq_true rfl, Nat.le_of_ble_eq_true rfl⟩ dX7_limitAt_33 (fun z25 u26 z25r hp27 => ?_)
    obtain ⟨hz9, hu28⟩ := hp27
    have hu28 := hu28.symm
    subst hu28
    rw [if_pos (by decide)] at hz9
    subst hz9
    refine V_if_eq X 43 ⟨by decide, by decide⟩ dX7_limitAt_36 (by decide) (fun h => absurd h (by first | decide | omega)) (fun _ => ?_)
    refine V_iconst X dX7_limitAt_39 ?_
    refine V_goto X 49 dX7_limitAt_40 (by decide) ?_
    exact V_iret X hr rfl ⟨by decide, by decide⟩ (by exact Or.inr (Or.inl ⟨hT, rfl⟩)) dX7_limitAt_49 (by decide) (by decide)
set_option maxRecDepth 100000 in
set_option maxHeartbeats 4000000 in
theorem m_X7_type (g : Geo) (l : Launch) (hl9 : l.stackTraces = false) (σ : St) (hR : RG σ) (a k : Int) (ha : R32 a) (hac : 0 ≤ a ∧ a < 65536) (hk : R32 k) (ty : Nat) (hty : σ.1 89 9 = (ty : Int)) (hty60 : ty ≤ 60) : Met l yX7_type wsX7_type ({ frames := 1, cells := 0, slots := 0, locals := 22 }) (va_Pc [.ref (ga g (89)), .int (iN (a)), .int (iN (k))] (World g σ)) (QI g (fun z u => (((a = 43 ∨ a = 45 ∨ a = 61) ∧ 1 ≤ k ∧ k ≤ 20) ∧ ty + k.toNat ≤ 60 ∧ z = ((ty + k.toNat : Nat) : Int) ∧ u = tyM σ a ty k.toNat) ∨ (¬ ((a = 43 ∨ a = 45 ∨ a = 61) ∧ 1 ≤ k ∧ k ≤ 20) ∧ u = sw σ 89 0 1) ∨ (((a = 43 ∨ a = 45 ∨ a = 61) ∧ 1 ≤ k ∧ k ≤ 20) ∧ ¬ ty + k.toNat ≤ 60 ∧ u = sw σ 89 0 2))) 0 0 (gA g) := by
  refine V_met hl9 (by decide) rfl (Nat.le_of_ble_eq_true rfl) ?_
  intro p9 e9 s9 m9 b9 t9 c9 X hr _
  refine V_lv (lv' := [(0, .ref (ga g (89))), (1, .int (iN (a))), (2, .int (iN (k)))]) rfl ?_
  refine V_iload_n X 1 rfl dX7_type_0 rfl ?_
  refine V_bipush X (by decide) dX7_type_1 ?_
  refine V_icmp_eq X 18 ha ⟨by decide, by decide⟩ dX7_type_3 (by decide) (fun q1 => ?_) (fun q1 => ?_)
  · skip
    refine V_iload_n X 2 rfl dX7_type_18 rfl ?_
    refine V_iconst X dX7_type_19 ?_
    refine V_bipush X (by decide) dX7_type_20 ?_
    refine V_callS_I X (na := 3) (m_X7_in g l hl9 σ k 1 (20) hk ⟨by decide, by decide⟩ ⟨by decide, by decide⟩) gX7_type_X7_in rfl rfl rfl (by decide +kernel) ⟨Nat.le_of_ble_eq_true rfl, Nat.le_of_ble_eq_true rfl⟩ rfl rfl (Nat.le_of_ble_eq_true rfl) ⟨Nat.le_of_ble_eq_true rfl, Nat.le_of_ble_eq_true rfl⟩ dX7_type_22 (fun z2 u3 z2r hp4 => ?_)
    obtain ⟨hz9, hu5⟩ := hp4
    have hu5 := hu5.symm
    subst hu5
    rcases Classical.em (1 ≤ k ∧ k ≤ 20) with hw22 | hw22
    · skip
      rw [if_pos hw22] at hz9
      subst hz9
      refine V_if_eq X 32 ⟨by decide, by decide⟩ dX7_type_25 (by decide) (fun h => absurd h (by first | decide | omega)) (fun _ => ?_)
      refine V_iconst X dX7_type_28 ?_
      refine V_goto X 33 dX7_type_29 (by decide) ?_
      refine V_istore_n X [(3, .int (iN (1))), (0, .ref (ga g (89))), (1, .int (iN (a))), (2, .int (iN (k)))] dX7_type_33 rfl (by decide) rfl ?_
      refine V_aload_n X 1 rfl dX7_type_34 rfl ?_
      refine V_iload_n X 0 rfl dX7_type_35 rfl ?_
      refine V_if_ne X 43 ⟨by decide, by decide⟩ dX7_type_36 (by decide) (fun _ => ?_) (fun h => absurd h (by first | decide | omega))
      refine V_aload_n X 1 rfl dX7_type_43 rfl ?_
      refine V_get X (ci := 7) (89) (by decide) (rfl) (by decide) rfl (fun _ h => List.mem_cons_of_mem _ (List.mem_append_right _ h)) 9 (by decide) (List.mem_of_getElem? (i := 1) rfl) rfl rfl dX7_type_44 ?_
      refine V_iload_n X 3 rfl dX7_type_47 rfl ?_
      refine V_iadd X dX7_type_48 ?_
      refine V_bipush X (by decide) dX7_type_49 ?_
      refine V_icmp_le X 58 ⟨by omega, by omega⟩ ⟨by decide, by decide⟩ dX7_type_51 (by decide) (fun q6 => ?_) (fun q6 => ?_)
      · skip
        refine V_iconst X dX7_type_58 ?_
        refine V_callV_I X (na := 1) (ci := 7) (b0 := 89) (by decide) (rfl) (by decide) rfl (m_X7_fails g l hl9 σ hR 0 ⟨by decide, by decide⟩) gX7_type_X7_fails rfl rfl rfl (by decide +kernel) ⟨Nat.le_of_ble_eq_true rfl, Nat.le_of_ble_eq_true rfl⟩ rfl rfl (Nat.le_of_ble_eq_true rfl) ⟨Nat.le_of_ble_eq_true rfl, Nat.le_of_ble_eq_true rfl⟩ dX7_type_59 (fun z7 u8 z7r hp9 => ?_)
        obtain ⟨hz9, hu10⟩ := hp9
        have hu10 := hu10.symm
        subst hu10
        rw [if_neg (by decide)] at hz9
        subst hz9
        refine V_if_eq X 67 ⟨by decide, by decide⟩ dX7_type_62 (by decide) (fun _ => ?_) (fun h => absurd h (by first | decide | omega))
        refine V_iconst X dX7_type_67 ?_
        refine V_istore X [(4, .int (iN (0))), (3, .int (iN (1))), (0, .ref (ga g (89))), (1, .int (iN (a))), (2, .int (iN (k)))] dX7_type_68 (by decide) rfl ?_
        refine V_sub (lv' := [(0, .ref (ga g (89))), (1, .int (iN (a))), (2, .int (iN (k))), (3, .int (iN (1))), (4, .int (iN (0)))]) [2, 3, 4, 1, 0] rfl ?_
        refine V_up (N := k.toNat) (fun (i : Nat) (u : St) (lw : List (Nat × Value)) => True ∧ [(0, .ref (ga g (89))), (1, .int (iN (a))), (2, .int (iN (k))), (3, .int (iN (1))), (4, .int (iN (((i : Nat) : Int))))] = lw ∧ (u = tyM σ a ty i)) (i0 := 0) (Nat.zero_le _) ⟨trivial, rfl, tyM_0 hty⟩ ?_ ?_
        · skip
          rintro u1 _ ⟨-, rfl, hv⟩
          have hRu := tyM_RG (σ := σ) (c := a) (ty := ty) (i := k.toNat) hR ha (by omega)
          refine V_iload X 4 rfl dX7_type_70 ?_
          refine V_iload_n X 2 rfl dX7_type_72 rfl ?_
          refine V_icmp_ge X 102 ⟨by omega, by omega⟩ hk dX7_type_73 (by decide) (fun _ => ?_) (fun h => absurd h (by omega))
          refine V_aload_n X 0 rfl dX7_type_102 rfl ?_
          refine V_get X (ci := 7) (89) (by decide) (rfl) (by decide) rfl (fun _ h => List.mem_cons_of_mem _ (List.mem_append_right _ h)) 9 (by decide) (List.mem_of_getElem? (i := 1) rfl) rfl rfl dX7_type_103 ?_
          refine V_top (b := ((ty + k.toNat : Nat) : Int)) (by rw [hv]; exact tyM_9) ?_
          exact V_iret X hr rfl ⟨by omega, by omega⟩ (by exact Or.inl ⟨by omega, by omega, rfl, hv⟩) dX7_type_106 (by decide) (by decide)
        · skip
          rintro i u1 _ hiN ⟨-, rfl, hv⟩ kk
          have hRu := tyM_RG (σ := σ) (c := a) (ty := ty) (i := i) hR ha (by omega)
          refine V_iload X 4 rfl dX7_type_70 ?_
          refine V_iload_n X 2 rfl dX7_type_72 rfl ?_
          refine V_icmp_ge X 102 ⟨by omega, by omega⟩ hk dX7_type_73 (by decide) (fun h => absurd h (by omega)) (fun _ => ?_)
          refine V_aload_n X 0 rfl dX7_type_76 rfl ?_
          refine V_get X (ci := 7) (89) (by decide) (rfl) (by decide) rfl (fun _ h => List.mem_cons_of_mem _ (List.mem_append_right _ h)) 10 (by decide) (List.mem_of_getElem? (i := 2) rfl) rfl rfl dX7_type_77 ?_
          refine V_aload_n X 0 rfl dX7_type_80 rfl ?_
          refine V_get X (ci := 7) (89) (by decide) (rfl) (by decide) rfl (fun _ h => List.mem_cons_of_mem _ (List.mem_append_right _ h)) 9 (by decide) (List.mem_of_getElem? (i := 1) rfl) rfl rfl dX7_type_81 ?_
          refine V_top (b := ((ty + i : Nat) : Int)) (by rw [hv]; exact tyM_9) ?_
          refine V_iload_n X 1 rfl dX7_type_84 rfl ?_
          refine V_cast X (N := 60) (96) (by decide) (rfl) (rfl) (by decide) (ty + i) (rfl) (by omega) (by omega) (by omega) dX7_type_85 ?_
          refine V_aload_n X 0 rfl dX7_type_86 rfl ?_
          refine V_dup X rfl dX7_type_87 ?_
          refine V_get X (ci := 7) (89) (by decide) (rfl) (by decide) rfl (fun _ h => List.mem_cons_of_mem _ (List.mem_append_right _ h)) 9 (by decide) (List.mem_of_getElem? (i := 1) rfl) rfl rfl dX7_type_88 ?_
          refine V_top (b := u1.1 89 9) (rd_n (by decide)) ?_
          refine V_top (b := ((ty + i : Nat) : Int)) (by rw [hv]; exact tyM_9) ?_
          refine V_iconst X dX7_type_91 ?_
          refine V_iadd X dX7_type_92 ?_
          refine V_top (b := ((ty + (i + 1) : Nat) : Int)) (by omega) ?_
          refine V_put X (ci := 7) (89) (by decide) (rfl) (by decide) rfl (fun _ h => List.mem_cons_of_mem _ (List.mem_append_right _ h)) 9 (by decide) (List.mem_of_getElem? (i := 1) rfl) rfl tyX7 tyX7_ok nmX7 rfl rfl rfl rfl rfl (Nat.le_of_ble_eq_true rfl) dX7_type_93 ?_
          refine V_iinc X [(4, .int (iN (((i : Nat) : Int) + 1))), (0, .ref (ga g (89))), (1, .int (iN (a))), (2, .int (iN (k))), (3, .int (iN (1)))] 4 (((i : Nat) : Int) + 1) (rfl) rfl dX7_type_96 (by decide) rfl ?_
          refine V_goto X 70 dX7_type_99 (by decide) ?_
          refine V_sub (lv' := [(0, .ref (ga g (89))), (1, .int (iN (a))), (2, .int (iN (k))), (3, .int (iN (1))), (4, .int (iN (((i : Nat) : Int) + 1)))]) [1, 2, 3, 4, 0] rfl ?_
          refine V_lv (congrArg (fun q : Int => ([(0, .ref (ga g (89))), (1, .int (iN (a))), (2, .int (iN (k))), (3, .int (iN (1))), (4, .int (iN q))] : List (Nat × Value))) (show ((i : Nat) : Int) + 1 = (((i + 1) : Nat) : Int) from by omega)) ?_
          exact kk _ _ ⟨trivial, rfl, by rw [hv]; exact tyM_s⟩
      · skip
        refine V_iconst X dX7_type_54 ?_
        refine V_goto X 59 dX7_type_55 (by decide) ?_
        refine V_callV_I X (na := 1) (ci := 7) (b0 := 89) (by decide) (rfl) (by decide) rfl (m_X7_fails g l hl9 σ hR 2 ⟨by decide, by decide⟩) gX7_type_X7_fails rfl rfl rfl (by decide +kernel) ⟨Nat.le_of_ble_eq_true rfl, Nat.le_of_ble_eq_true rfl⟩ rfl rfl (Nat.le_of_ble_eq_true rfl) ⟨Nat.le_of_ble_eq_true rfl, Nat.le_of_ble_eq_true rfl⟩ dX7_type_59 (fun z11 u12 z11r hp13 => ?_)
        obtain ⟨hz9, hu14⟩ := hp13
        have hu14 := hu14.symm
        subst hu14
        rw [if_pos (by decide)] at hz9
        subst hz9
        refine V_if_eq X 67 ⟨by decide, by decide⟩ dX7_type_62 (by decide) (fun h => absurd h (by first | decide | omega)) (fun _ => ?_)
        refine V_iconst X dX7_type_65 ?_
        exact V_iret X hr rfl ⟨by decide, by decide⟩ (by exact Or.inr (Or.inr ⟨by omega, by omega, rfl⟩)) dX7_type_66 (by decide) (by decide)
    · skip
      rw [if_neg hw22] at hz9
      subst hz9
      refine V_if_eq X 32 ⟨by decide, by decide⟩ dX7_type_25 (by decide) (fun _ => ?_) (fun h => absurd h (by first | decide | omega))
      refine V_iconst X dX7_type_32 ?_
      refine V_istore_n X [(3, .int (iN (0))), (0, .ref (ga g (89))), (1, .int (iN (a))), (2, .int (iN (k)))] dX7_type_33 rfl (by decide) rfl ?_
      refine V_aload_n X 1 rfl dX7_type_34 rfl ?_
      refine V_iload_n X 0 rfl dX7_type_35 rfl ?_
      refine V_if_ne X 43 ⟨by decide, by decide⟩ dX7_type_36 (by decide) (fun h => absurd h (by first | decide | omega)) (fun _ => ?_)
      refine V_iconst X dX7_type_39 ?_
      refine V_goto X 59 dX7_type_40 (by decide) ?_
      refine V_callV_I X (na := 1) (ci := 7) (b0 := 89) (by decide) (rfl) (by decide) rfl (m_X7_fails g l hl9 σ hR 1 ⟨by decide, by decide⟩) gX7_type_X7_fails rfl rfl rfl (by decide +kernel) ⟨Nat.le_of_ble_eq_true rfl, Nat.le_of_ble_eq_true rfl⟩ rfl rfl (Nat.le_of_ble_eq_true rfl) ⟨Nat.le_of_ble_eq_true rfl, Nat.le_of_ble_eq_true rfl⟩ dX7_type_59 (fun z15 u16 z15r hp17 => ?_)
      obtain ⟨hz9, hu18⟩ := hp17
      have hu18 := hu18.symm
      subst hu18
      rw [if_pos (by decide)] at hz9
      subst hz9
      refine V_if_eq X 67 ⟨by decide, by decide⟩ dX7_type_62 (by decide) (fun h => absurd h (by first | decide | omega)) (fun _ => ?_)
      refine V_iconst X dX7_type_65 ?_
      exact V_iret X hr rfl ⟨by decide, by decide⟩ (by exact Or.inr (Or.inl ⟨by omega, rfl⟩)) dX7_type_66 (by decide) (by decide)
  · skip
    refine V_iload_n X 1 rfl dX7_type_6 rfl ?_
    refine V_bipush X (by decide) dX7_type_7 ?_
    refine V_icmp_eq X 18 ha ⟨by decide, by decide⟩ dX7_type_9 (by decide) (fun q19 => ?_) (fun q19 => ?_)
    · skip
      refine V_iload_n X 2 rfl dX7_type_18 rfl ?_
      refine V_iconst X dX7_type_19 ?_
      refine V_bipush X (by decide) dX7_type_20 ?_
      refine V_callS_I X (na := 3) (m_X7_in g l hl9 σ k 1 (20) hk ⟨by decide, by decide⟩ ⟨by decide, by decide⟩) gX7_type_X7_in rfl rfl rfl (by decide +kernel) ⟨Nat.le_of_ble_eq_true rfl, Nat.le_of_ble_eq_true rfl⟩ rfl rfl (Nat.le_of_ble_eq_true rfl) ⟨Nat.le_of_ble_eq_true rfl, Nat.le_of_ble_eq_true rfl⟩ dX7_type_22 (fun z20 u21 z20r hp22 => ?_)
      obtain ⟨hz9, hu23⟩ := hp22
      have hu23 := hu23.symm
      subst hu23
      rcases Classical.em (1 ≤ k ∧ k ≤ 20) with hw22 | hw22
      · skip
        rw [if_pos hw22] at hz9
        subst hz9
        refine V_if_eq X 32 ⟨by decide, by decide⟩ dX7_type_25 (by decide) (fun h => absurd h (by first | decide | omega)) (fun _ => ?_)
        refine V_iconst X dX7_type_28 ?_
        refine V_goto X 33 dX7_type_29 (by decide) ?_
        refine V_istore_n X [(3, .int (iN (1))), (0, .ref (ga g (89))), (1, .int (iN (a))), (2, .int (iN (k)))] dX7_type_33 rfl (by decide) rfl ?_
        refine V_aload_n X 1 rfl dX7_type_34 rfl ?_
        refine V_iload_n X 0 rfl dX7_type_35 rfl ?_
        refine V_if_ne X 43 ⟨by decide, by decide⟩ dX7_type_36 (by decide) (fun _ => ?_) (fun h => absurd h (by first | decide | omega))
        refine V_aload_n X 1 rfl dX7_type_43 rfl ?_
        refine V_get X (ci := 7) (89) (by decide) (rfl) (by decide) rfl (fun _ h => List.mem_cons_of_mem _ (List.mem_append_right _ h)) 9 (by decide) (List.mem_of_getElem? (i := 1) rfl) rfl rfl dX7_type_44 ?_
        refine V_iload_n X 3 rfl dX7_type_47 rfl ?_
        refine V_iadd X dX7_type_48 ?_
        refine V_bipush X (by decide) dX7_type_49 ?_
        refine V_icmp_le X 58 ⟨by omega, by omega⟩ ⟨by decide, by decide⟩ dX7_type_51 (by decide) (fun q24 => ?_) (fun q24 => ?_)
        · skip
          refine V_iconst X dX7_type_58 ?_
          refine V_callV_I X (na := 1) (ci := 7) (b0 := 89) (by decide) (rfl) (by decide) rfl (m_X7_fails g l hl9 σ hR 0 ⟨by decide, by decide⟩) gX7_type_X7_fails rfl rfl rfl (by decide +kernel) ⟨Nat.le_of_ble_eq_true rfl, Nat.le_of_ble_eq_true rfl⟩ rfl rfl (Nat.le_of_ble_eq_true rfl) ⟨Nat.le_of_ble_eq_true rfl, Nat.le_of_ble_eq_true rfl⟩ dX7_type_59 (fun z25 u26 z25r hp27 => ?_)
          obtain ⟨hz9, hu28⟩ := hp27
          have hu28 := hu28.symm
          subst hu28
          rw [if_neg (by decide)] at hz9
          subst hz9
          refine V_if_eq X 67 ⟨by decide, by decide⟩ dX7_type_62 (by decide) (fun _ => ?_) (fun h => absurd h (by first | decide | omega))
          refine V_iconst X dX7_type_67 ?_
          refine V_istore X [(4, .int (iN (0))), (3, .int (iN (1))), (0, .ref (ga g (89))), (1, .int (iN (a))), (2, .int (iN (k)))] dX7_type_68 (by decide) rfl ?_
          refine V_sub (lv' := [(0, .ref (ga g (89))), (1, .int (iN (a))), (2, .int (iN (k))), (3, .int (iN (1))), (4, .int (iN (0)))]) [2, 3, 4, 1, 0] rfl ?_
          refine V_up (N := k.toNat) (fun (i : Nat) (u : St) (lw : List (Nat × Value)) => True ∧ [(0, .ref (ga g (89))), (1, .int (iN (a))), (2, .int (iN (k))), (3, .int (iN (1))), (4, .int (iN (((i : Nat) : Int))))] = lw ∧ (u = tyM σ a ty i)) (i0 := 0) (Nat.zero_le _) ⟨trivial, rfl, tyM_0 hty⟩ ?_ ?_
          · skip
            rintro u1 _ ⟨-, rfl, hv⟩
            have hRu := tyM_RG (σ := σ) (c := a) (ty := ty) (i := k.toNat) hR ha (by omega)
            refine V_iload X 4 rfl dX7_type_70 ?_
            refine V_iload_n X 2 rfl dX7_type_72 rfl ?_
            refine V_icmp_ge X 102 ⟨by omega, by omega⟩ hk dX7_type_73 (by decide) (fun _ => ?_) (fun h => absurd h (by omega))
            refine V_aload_n X 0 rfl dX7_type_102 rfl ?_
            refine V_get X (ci := 7) (89) (by decide) (rfl) (by decide) rfl (fun _ h => List.mem_cons_of_mem _ (List.mem_append_right _ h)) 9 (by decide) (List.mem_of_getElem? (i := 1) rfl) rfl rfl dX7_type_103 ?_
            refine V_top (b := ((ty + k.toNat : Nat) : Int)) (by rw [hv]; exact tyM_9) ?_
            exact V_iret X hr rfl ⟨by omega, by omega⟩ (by exact Or.inl ⟨by omega, by omega, rfl, hv⟩) dX7_type_106 (by decide) (by decide)
          · skip
            rintro i u1 _ hiN ⟨-, rfl, hv⟩ kk
            have hRu := tyM_RG (σ := σ) (c := a) (ty := ty) (i := i) hR ha (by omega)
            refine V_iload X 4 rfl dX7_type_70 ?_
            refine V_iload_n X 2 rfl dX7_type_72 rfl ?_
            refine V_icmp_ge X 102 ⟨by omega, by omega⟩ hk dX7_type_73 (by decide) (fun h => absurd h (by omega)) (fun _ => ?_)
            refine V_aload_n X 0 rfl dX7_type_76 rfl ?_
            refine V_get X (ci := 7) (89) (by decide) (rfl) (by decide) rfl (fun _ h => List.mem_cons_of_mem _ (List.mem_append_right _ h)) 10 (by decide) (List.mem_of_getElem? (i := 2) rfl) rfl rfl dX7_type_77 ?_
            refine V_aload_n X 0 rfl dX7_type_80 rfl ?_
            refine V_get X (ci := 7) (89) (by decide) (rfl) (by decide) rfl (fun _ h => List.mem_cons_of_mem _ (List.mem_append_right _ h)) 9 (by decide) (List.mem_of_getElem? (i := 1) rfl) rfl rfl dX7_type_81 ?_
            refine V_top (b := ((ty + i : Nat) : Int)) (by rw [hv]; exact tyM_9) ?_
            refine V_iload_n X 1 rfl dX7_type_84 rfl ?_
            refine V_cast X (N := 60) (96) (by decide) (rfl) (rfl) (by decide) (ty + i) (rfl) (by omega) (by omega) (by omega) dX7_type_85 ?_
            refine V_aload_n X 0 rfl dX7_type_86 rfl ?_
            refine V_dup X rfl dX7_type_87 ?_
            refine V_get X (ci := 7) (89) (by decide) (rfl) (by decide) rfl (fun _ h => List.mem_cons_of_mem _ (List.mem_append_right _ h)) 9 (by decide) (List.mem_of_getElem? (i := 1) rfl) rfl rfl dX7_type_88 ?_
            refine V_top (b := u1.1 89 9) (rd_n (by decide)) ?_
            refine V_top (b := ((ty + i : Nat) : Int)) (by rw [hv]; exact tyM_9) ?_
            refine V_iconst X dX7_type_91 ?_
            refine V_iadd X dX7_type_92 ?_
            refine V_top (b := ((ty + (i + 1) : Nat) : Int)) (by omega) ?_
            refine V_put X (ci := 7) (89) (by decide) (rfl) (by decide) rfl (fun _ h => List.mem_cons_of_mem _ (List.mem_append_right _ h)) 9 (by decide) (List.mem_of_getElem? (i := 1) rfl) rfl tyX7 tyX7_ok nmX7 rfl rfl rfl rfl rfl (Nat.le_of_ble_eq_true rfl) dX7_type_93 ?_
            refine V_iinc X [(4, .int (iN (((i : Nat) : Int) + 1))), (0, .ref (ga g (89))), (1, .int (iN (a))), (2, .int (iN (k))), (3, .int (iN (1)))] 4 (((i : Nat) : Int) + 1) (rfl) rfl dX7_type_96 (by decide) rfl ?_
            refine V_goto X 70 dX7_type_99 (by decide) ?_
            refine V_sub (lv' := [(0, .ref (ga g (89))), (1, .int (iN (a))), (2, .int (iN (k))), (3, .int (iN (1))), (4, .int (iN (((i : Nat) : Int) + 1)))]) [1, 2, 3, 4, 0] rfl ?_
            refine V_lv (congrArg (fun q : Int => ([(0, .ref (ga g (89))), (1, .int (iN (a))), (2, .int (iN (k))), (3, .int (iN (1))), (4, .int (iN q))] : List (Nat × Value))) (show ((i : Nat) : Int) + 1 = (((i + 1) : Nat) : Int) from by omega)) ?_
            exact kk _ _ ⟨trivial, rfl, by rw [hv]; exact tyM_s⟩
        · skip
          refine V_iconst X dX7_type_54 ?_
          refine V_goto X 59 dX7_type_55 (by decide) ?_
          refine V_callV_I X (na := 1) (ci := 7) (b0 := 89) (by decide) (rfl) (by decide) rfl (m_X7_fails g l hl9 σ hR 2 ⟨by decide, by decide⟩) gX7_type_X7_fails rfl rfl rfl (by decide +kernel) ⟨Nat.le_of_ble_eq_true rfl, Nat.le_of_ble_eq_true rfl⟩ rfl rfl (Nat.le_of_ble_eq_true rfl) ⟨Nat.le_of_ble_eq_true rfl, Nat.le_of_ble_eq_true rfl⟩ dX7_type_59 (fun z29 u30 z29r hp31 => ?_)
          obtain ⟨hz9, hu32⟩ := hp31
          have hu32 := hu32.symm
          subst hu32
          rw [if_pos (by decide)] at hz9
          subst hz9
          refine V_if_eq X 67 ⟨by decide, by decide⟩ dX7_type_62 (by decide) (fun h => absurd h (by first | decide | omega)) (fun _ => ?_)
          refine V_iconst X dX7_type_65 ?_
          exact V_iret X hr rfl ⟨by decide, by decide⟩ (by exact Or.inr (Or.inr ⟨by omega, by omega, rfl⟩)) dX7_type_66 (by decide) (by decide)
      · skip
        rw [if_neg hw22] at hz9
        subst hz9
        refine V_if_eq X 32 ⟨by decide, by decide⟩ dX7_type_25 (by decide) (fun _ => ?_) (fun h => absurd h (by first | decide | omega))
        refine V_iconst X dX7_type_32 ?_
        refine V_istore_n X [(3, .int (iN (0))), (0, .ref (ga g (89))), (1, .int (iN (a))), (2, .int (iN (k)))] dX7_type_33 rfl (by decide) rfl ?_
        refine V_aload_n X 1 rfl dX7_type_34 rfl ?_
        refine V_iload_n X 0 rfl dX7_type_35 rfl ?_
        refine V_if_ne X 43 ⟨by decide, by decide⟩ dX7_type_36 (by decide) (fun h => absurd h (by first | decide | omega)) (fun _ => ?_)
        refine V_iconst X dX7_type_39 ?_
        refine V_goto X 59 dX7_type_40 (by decide) ?_
        refine V_callV_I X (na := 1) (ci := 7) (b0 := 89) (by decide) (rfl) (by decide) rfl (m_X7_fails g l hl9 σ hR 1 ⟨by decide, by decide⟩) gX7_type_X7_fails rfl rfl rfl (by decide +kernel) ⟨Nat.le_of_ble_eq_true rfl, Nat.le_of_ble_eq_true rfl⟩ rfl rfl (Nat.le_of_ble_eq_true rfl) ⟨Nat.le_of_ble_eq_true rfl, Nat.le_of_ble_eq_true rfl⟩ dX7_type_59 (fun z33 u34 z33r hp35 => ?_)
        obtain ⟨hz9, hu36⟩ := hp35
        have hu36 := hu36.symm
        subst hu36
        rw [if_pos (by decide)] at hz9
        subst hz9
        refine V_if_eq X 67 ⟨by decide, by decide⟩ dX7_type_62 (by decide) (fun h => absurd h (by first | decide | omega)) (fun _ => ?_)
        refine V_iconst X dX7_type_65 ?_
        exact V_iret X hr rfl ⟨by decide, by decide⟩ (by exact Or.inr (Or.inl ⟨by omega, rfl⟩)) dX7_type_66 (by decide) (by decide)
    · skip
      refine V_iload_n X 1 rfl dX7_type_12 rfl ?_
      refine V_bipush X (by decide) dX7_type_13 ?_
      refine V_icmp_ne X 32 ha ⟨by decide, by decide⟩ dX7_type_15 (by decide) (fun q37 => ?_) (fun q37 => ?_)
      · skip
        refine V_iconst X dX7_type_32 ?_
        refine V_istore_n X [(3, .int (iN (0))), (0, .ref (ga g (89))), (1, .int (iN (a))), (2, .int (iN (k)))] dX7_type_33 rfl (by decide) rfl ?_
        refine V_aload_n X 1 rfl dX7_type_34 rfl ?_
        refine V_iload_n X 0 rfl dX7_type_35 rfl ?_
        refine V_if_ne X 43 ⟨by decide, by decide⟩ dX7_type_36 (by decide) (fun h => absurd h (by first | decide | omega)) (fun _ => ?_)
        refine V_iconst X dX7_type_39 ?_
        refine V_goto X 59 dX7_type_40 (by decide) ?_
        refine V_callV_I X (na := 1) (ci := 7) (b0 := 89) (by decide) (rfl) (by decide) rfl (m_X7_fails g l hl9 σ hR 1 ⟨by decide, by decide⟩) gX7_type_X7_fails rfl rfl rfl (by decide +kernel) ⟨Nat.le_of_ble_eq_true rfl, Nat.le_of_ble_eq_true rfl⟩ rfl rfl (Nat.le_of_ble_eq_true rfl) ⟨Nat.le_of_ble_eq_true rfl, Nat.le_of_ble_eq_true rfl⟩ dX7_type_59 (fun z38 u39 z38r hp40 => ?_)
        obtain ⟨hz9, hu41⟩ := hp40
        have hu41 := hu41.symm
        subst hu41
        rw [if_pos (by decide)] at hz9
        subst hz9
        refine V_if_eq X 67 ⟨by decide, by decide⟩ dX7_type_62 (by decide) (fun h => absurd h (by first | decide | omega)) (fun _ => ?_)
        refine V_iconst X dX7_type_65 ?_
        exact V_iret X hr rfl ⟨by decide, by decide⟩ (by exact Or.inr (Or.inl ⟨by omega, rfl⟩)) dX7_type_66 (by decide) (by decide)
      · skip
        refine V_iload_n X 2 rfl dX7_type_18 rfl ?_
        refine V_iconst X dX7_type_19 ?_
        refine V_bipush X (by decide) dX7_type_20 ?_
        refine V_callS_I X (na := 3) (m_X7_in g l hl9 σ k 1 (20) hk ⟨by decide, by decide⟩ ⟨by decide, by decide⟩) gX7_type_X7_in rfl rfl rfl (by decide +kernel) ⟨Nat.le_of_ble_eq_true rfl, Nat.le_of_ble_eq_true rfl⟩ rfl rfl (Nat.le_of_ble_eq_true rfl) ⟨Nat.le_of_ble_eq_true rfl, Nat.le_of_ble_eq_true rfl⟩ dX7_type_22 (fun z42 u43 z42r hp44 => ?_)
        obtain ⟨hz9, hu45⟩ := hp44
        have hu45 := hu45.symm
        subst hu45
        rcases Classical.em (1 ≤ k ∧ k ≤ 20) with hw22 | hw22
        · skip
          rw [if_pos hw22] at hz9
          subst hz9
          refine V_if_eq X 32 ⟨by decide, by decide⟩ dX7_type_25 (by decide) (fun h => absurd h (by first | decide | omega)) (fun _ => ?_)
          refine V_iconst X dX7_type_28 ?_
          refine V_goto X 33 dX7_type_29 (by decide) ?_
          refine V_istore_n X [(3, .int (iN (1))), (0, .ref (ga g (89))), (1, .int (iN (a))), (2, .int (iN (k)))] dX7_type_33 rfl (by decide) rfl ?_
          refine V_aload_n X 1 rfl dX7_type_34 rfl ?_
          refine V_iload_n X 0 rfl dX7_type_35 rfl ?_
          refine V_if_ne X 43 ⟨by decide, by decide⟩ dX7_type_36 (by decide) (fun _ => ?_) (fun h => absurd h (by first | decide | omega))
          refine V_aload_n X 1 rfl dX7_type_43 rfl ?_
          refine V_get X (ci := 7) (89) (by decide) (rfl) (by decide) rfl (fun _ h => List.mem_cons_of_mem _ (List.mem_append_right _ h)) 9 (by decide) (List.mem_of_getElem? (i := 1) rfl) rfl rfl dX7_type_44 ?_
          refine V_iload_n X 3 rfl dX7_type_47 rfl ?_
          refine V_iadd X dX7_type_48 ?_
          refine V_bipush X (by decide) dX7_type_49 ?_
          refine V_icmp_le X 58 ⟨by omega, by omega⟩ ⟨by decide, by decide⟩ dX7_type_51 (by decide) (fun q46 => ?_) (fun q46 => ?_)
          · skip
            refine V_iconst X dX7_type_58 ?_
            refine V_callV_I X (na := 1) (ci := 7) (b0 := 89) (by decide) (rfl) (by decide) rfl (m_X7_fails g l hl9 σ hR 0 ⟨by decide, by decide⟩) gX7_type_X7_fails rfl rfl rfl (by decide +kernel) ⟨Nat.le_of_ble_eq_true rfl, Nat.le_of_ble_eq_true rfl⟩ rfl rfl (Nat.le_of_ble_eq_true rfl) ⟨Nat.le_of_ble_eq_true rfl, Nat.le_of_ble_eq_true rfl⟩ dX7_type_59 (fun z47 u48 z47r hp49 => ?_)
            obtain ⟨hz9, hu50⟩ := hp49
            have hu50 := hu50.symm
            subst hu50
            rw [if_neg (by decide)] at hz9
            subst hz9
            refine V_if_eq X 67 ⟨by decide, by decide⟩ dX7_type_62 (by decide) (fun _ => ?_) (fun h => absurd h (by first | decide | omega))
            refine V_iconst X dX7_type_67 ?_
            refine V_istore X [(4, .int (iN (0))), (3, .int (iN (1))), (0, .ref (ga g (89))), (1, .int (iN (a))), (2, .int (iN (k)))] dX7_type_68 (by decide) rfl ?_
            refine V_sub (lv' := [(0, .ref (ga g (89))), (1, .int (iN (a))), (2, .int (iN (k))), (3, .int (iN (1))), (4, .int (iN (0)))]) [2, 3, 4, 1, 0] rfl ?_
            refine V_up (N := k.toNat) (fun (i : Nat) (u : St) (lw : List (Nat × Value)) => True ∧ [(0, .ref (ga g (89))), (1, .int (iN (a))), (2, .int (iN (k))), (3, .int (iN (1))), (4, .int (iN (((i : Nat) : Int))))] = lw ∧ (u = tyM σ a ty i)) (i0 := 0) (Nat.zero_le _) ⟨trivial, rfl, tyM_0 hty⟩ ?_ ?_
            · skip
              rintro u1 _ ⟨-, rfl, hv⟩
              have hRu := tyM_RG (σ := σ) (c := a) (ty := ty) (i := k.toNat) hR ha (by omega)
              refine V_iload X 4 rfl dX7_type_70 ?_
              refine V_iload_n X 2 rfl dX7_type_72 rfl ?_
              refine V_icmp_ge X 102 ⟨by omega, by omega⟩ hk dX7_type_73 (by decide) (fun _ => ?_) (fun h => absurd h (by omega))
              refine V_aload_n X 0 rfl dX7_type_102 rfl ?_
              refine V_get X (ci := 7) (89) (by decide) (rfl) (by decide) rfl (fun _ h => List.mem_cons_of_mem _ (List.mem_append_right _ h)) 9 (by decide) (List.mem_of_getElem? (i := 1) rfl) rfl rfl dX7_type_103 ?_
              refine V_top (b := ((ty + k.toNat : Nat) : Int)) (by rw [hv]; exact tyM_9) ?_
              exact V_iret X hr rfl ⟨by omega, by omega⟩ (by exact Or.inl ⟨by omega, by omega, rfl, hv⟩) dX7_type_106 (by decide) (by decide)
            · skip
              rintro i u1 _ hiN ⟨-, rfl, hv⟩ kk
              have hRu := tyM_RG (σ := σ) (c := a) (ty := ty) (i := i) hR ha (by omega)
              refine V_iload X 4 rfl dX7_type_70 ?_
              refine V_iload_n X 2 rfl dX7_type_72 rfl ?_
              refine V_icmp_ge X 102 ⟨by omega, by omega⟩ hk dX7_type_73 (by decide) (fun h => absurd h (by omega)) (fun _ => ?_)
              refine V_aload_n X 0 rfl dX7_type_76 rfl ?_
              refine V_get X (ci := 7) (89) (by decide) (rfl) (by decide) rfl (fun _ h => List.mem_cons_of_mem _ (List.mem_append_right _ h)) 10 (by decide) (List.mem_of_getElem? (i := 2) rfl) rfl rfl dX7_type_77 ?_
              refine V_aload_n X 0 rfl dX7_type_80 rfl ?_
              refine V_get X (ci := 7) (89) (by decide) (rfl) (by decide) rfl (fun _ h => List.mem_cons_of_mem _ (List.mem_append_right _ h)) 9 (by decide) (List.mem_of_getElem? (i := 1) rfl) rfl rfl dX7_type_81 ?_
              refine V_top (b := ((ty + i : Nat) : Int)) (by rw [hv]; exact tyM_9) ?_
              refine V_iload_n X 1 rfl dX7_type_84 rfl ?_
              refine V_cast X (N := 60) (96) (by decide) (rfl) (rfl) (by decide) (ty + i) (rfl) (by omega) (by omega) (by omega) dX7_type_85 ?_
              refine V_aload_n X 0 rfl dX7_type_86 rfl ?_
              refine V_dup X rfl dX7_type_87 ?_
              refine V_get X (ci := 7) (89) (by decide) (rfl) (by decide) rfl (fun _ h => List.mem_cons_of_mem _ (List.mem_append_right _ h)) 9 (by decide) (List.mem_of_getElem? (i := 1) rfl) rfl rfl dX7_type_88 ?_
              refine V_top (b := u1.1 89 9) (rd_n (by decide)) ?_
              refine V_top (b := ((ty + i : Nat) : Int)) (by rw [hv]; exact tyM_9) ?_
              refine V_iconst X dX7_type_91 ?_
              refine V_iadd X dX7_type_92 ?_
              refine V_top (b := ((ty + (i + 1) : Nat) : Int)) (by omega) ?_
              refine V_put X (ci := 7) (89) (by decide) (rfl) (by decide) rfl (fun _ h => List.mem_cons_of_mem _ (List.mem_append_right _ h)) 9 (by decide) (List.mem_of_getElem? (i := 1) rfl) rfl tyX7 tyX7_ok nmX7 rfl rfl rfl rfl rfl (Nat.le_of_ble_eq_true rfl) dX7_type_93 ?_
              refine V_iinc X [(4, .int (iN (((i : Nat) : Int) + 1))), (0, .ref (ga g (89))), (1, .int (iN (a))), (2, .int (iN (k))), (3, .int (iN (1)))] 4 (((i : Nat) : Int) + 1) (rfl) rfl dX7_type_96 (by decide) rfl ?_
              refine V_goto X 70 dX7_type_99 (by decide) ?_
              refine V_sub (lv' := [(0, .ref (ga g (89))), (1, .int (iN (a))), (2, .int (iN (k))), (3, .int (iN (1))), (4, .int (iN (((i : Nat) : Int) + 1)))]) [1, 2, 3, 4, 0] rfl ?_
              refine V_lv (congrArg (fun q : Int => ([(0, .ref (ga g (89))), (1, .int (iN (a))), (2, .int (iN (k))), (3, .int (iN (1))), (4, .int (iN q))] : List (Nat × Value))) (show ((i : Nat) : Int) + 1 = (((i + 1) : Nat) : Int) from by omega)) ?_
              exact kk _ _ ⟨trivial, rfl, by rw [hv]; exact tyM_s⟩
          · skip
            refine V_iconst X dX7_type_54 ?_
            refine V_goto X 59 dX7_type_55 (by decide) ?_
            refine V_callV_I X (na := 1) (ci := 7) (b0 := 89) (by decide) (rfl) (by decide) rfl (m_X7_fails g l hl9 σ hR 2 ⟨by decide, by decide⟩) gX7_type_X7_fails rfl rfl rfl (by decide +kernel) ⟨Nat.le_of_ble_eq_true rfl, Nat.le_of_ble_eq_true rfl⟩ rfl rfl (Nat.le_of_ble_eq_true rfl) ⟨Nat.le_of_ble_eq_true rfl, Nat.le_of_ble_eq_true rfl⟩ dX7_type_59 (fun z51 u52 z51r hp53 => ?_)
            obtain ⟨hz9, hu54⟩ := hp53
            have hu54 := hu54.symm
            subst hu54
            rw [if_pos (by decide)] at hz9
            subst hz9
            refine V_if_eq X 67 ⟨by decide, by decide⟩ dX7_type_62 (by decide) (fun h => absurd h (by first | decide | omega)) (fun _ => ?_)
            refine V_iconst X dX7_type_65 ?_
            exact V_iret X hr rfl ⟨by decide, by decide⟩ (by exact Or.inr (Or.inr ⟨by omega, by omega, rfl⟩)) dX7_type_66 (by decide) (by decide)
        · skip
          rw [if_neg hw22] at hz9
          subst hz9
          refine V_if_eq X 32 ⟨by decide, by decide⟩ dX7_type_25 (by decide) (fun _ => ?_) (fun h => absurd h (by first | decide | omega))
          refine V_iconst X dX7_type_32 ?_
          refine V_istore_n X [(3, .int (iN (0))), (0, .ref (ga g (89))), (1, .int (iN (a))), (2, .int (iN (k)))] dX7_type_33 rfl (by decide) rfl ?_
          refine V_aload_n X 1 rfl dX7_type_34 rfl ?_
          refine V_iload_n X 0 rfl dX7_type_35 rfl ?_
          refine V_if_ne X 43 ⟨by decide, by decide⟩ dX7_type_36 (by decide) (fun h => absurd h (by first | decide | omega)) (fun _ => ?_)
          refine V_iconst X dX7_type_39 ?_
          refine V_goto X 59 dX7_type_40 (by decide) ?_
          refine V_callV_I X (na := 1) (ci := 7) (b0 := 89) (by decide) (rfl) (by decide) rfl (m_X7_fails g l hl9 σ hR 1 ⟨by decide, by decide⟩) gX7_type_X7_fails rfl rfl rfl (by decide +kernel) ⟨Nat.le_of_ble_eq_true rfl, Nat.le_of_ble_eq_true rfl⟩ rfl rfl (Nat.le_of_ble_eq_true rfl) ⟨Nat.le_of_ble_eq_true rfl, Nat.le_of_ble_eq_true rfl⟩ dX7_type_59 (fun z55 u56 z55r hp57 => ?_)
          obtain ⟨hz9, hu58⟩ := hp57
          have hu58 := hu58.symm
          subst hu58
          rw [if_pos (by decide)] at hz9
          subst hz9
          refine V_if_eq X 67 ⟨by decide, by decide⟩ dX7_type_62 (by decide) (fun h => absurd h (by first | decide | omega)) (fun _ => ?_)
          refine V_iconst X dX7_type_65 ?_
          exact V_iret X hr rfl ⟨by decide, by decide⟩ (by exact Or.inr (Or.inl ⟨by omega, rfl⟩)) dX7_type_66 (by decide) (by decide)
set_option maxRecDepth 100000 in
set_option maxHeartbeats 4000000 in
theorem m_X7_wipe (g : Geo) (l : Launch) (hl9 : l.stackTraces = false) (σ : St) (hR : RG σ) : Met l yX7_wipe wsX7_wipe ({ frames := 0, cells := 0, slots := 0, locals := 0 }) (va_Pc [.ref (ga g (89))] (World g σ)) (QI g (fun z u => z = σ.1 89 9 ∧ u = sw (sw σ 89 0 0) 89 9 0)) 0 0 (gA g) := by
  refine V_met hl9 (by decide) rfl (Nat.le_of_ble_eq_true rfl) ?_
  intro p9 e9 s9 m9 b9 t9 c9 X hr _
  refine V_lv (lv' := [(0, .ref (ga g (89)))]) rfl ?_
  refine V_aload_n X 0 rfl dX7_wipe_0 rfl ?_
  refine V_iconst X dX7_wipe_1 ?_
  refine V_put X (ci := 7) (89) (by decide) (rfl) (by decide) rfl (fun _ h => List.mem_cons_of_mem _ (List.mem_append_right _ h)) 0 (by decide) (List.mem_of_getElem? (i := 1) rfl) rfl tyX7 tyX7_ok nmX7 rfl rfl rfl rfl rfl (Nat.le_of_ble_eq_true rfl) dX7_wipe_2 ?_
  refine V_aload_n X 0 rfl dX7_wipe_5 rfl ?_
  refine V_get X (ci := 7) (89) (by decide) (rfl) (by decide) rfl (fun _ h => List.mem_cons_of_mem _ (List.mem_append_right _ h)) 9 (by decide) (List.mem_of_getElem? (i := 2) rfl) rfl rfl dX7_wipe_6 ?_
  refine V_top (b := σ.1 89 9) (rd_k (by decide)) ?_
  refine V_istore_n X [(1, .int (iN (σ.1 89 9))), (0, .ref (ga g (89)))] dX7_wipe_9 rfl (by decide) rfl ?_
  refine V_aload_n X 1 rfl dX7_wipe_10 rfl ?_
  refine V_iconst X dX7_wipe_11 ?_
  refine V_put X (ci := 7) (89) (by decide) (rfl) (by decide) rfl (fun _ h => List.mem_cons_of_mem _ (List.mem_append_right _ h)) 9 (by decide) (List.mem_of_getElem? (i := 2) rfl) rfl tyX7 tyX7_ok nmX7 rfl rfl rfl rfl rfl (Nat.le_of_ble_eq_true rfl) dX7_wipe_12 ?_
  refine V_iload_n X 0 rfl dX7_wipe_15 rfl ?_
  exact V_iret X hr rfl (hR _ _) (by exact ⟨rfl, rfl⟩) dX7_wipe_16 (by decide) (by decide)
