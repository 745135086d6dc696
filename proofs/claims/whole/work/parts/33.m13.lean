/-! ===== the reference: rides ===== -/
/-- nothing but the reference's scratch fields has changed -/
def FrM (σ u : St) : Prop := (∀ a, a ≠ 89 → a ≠ 109 → u.1 a = σ.1 a) ∧ (∀ k, k ≠ 0 → (k < 28 ∨ 31 < k) → u.1 89 k = σ.1 89 k) ∧ u.2 = σ.2 ∧ RG u
theorem FrM.rf {σ : St} (h : RG σ) : FrM σ σ := ⟨fun _ _ _ => rfl, fun _ _ _ => rfl, rfl, h⟩
theorem FrM.eq {σ u : St} (h : RG σ) (e : u = σ) : FrM σ u := by subst e; exact FrM.rf h
theorem FrM.sw {σ u : St} (h : FrM σ u) (k : Nat) (hk : k = 0 ∨ (28 ≤ k ∧ k ≤ 31)) {v : Int} (hv : R32 v) : FrM σ (sw u 89 k v) :=
  ⟨fun a h1 h2 => by rw [sw_ne h1]; exact h.1 a h1 h2, fun j h1 h2 => by rw [rd_k (by omega)]; exact h.2.1 j h1 h2, h.2.2.1, h.2.2.2.sw _ _ hv⟩
theorem FrM.tr {σ u v : St} (h : FrM σ u) (h2 : FrM u v) : FrM σ v := ⟨fun a q1 q2 => (h2.1 a q1 q2).trans (h.1 a q1 q2), fun k q1 q2 => (h2.2.1 k q1 q2).trans (h.2.1 k q1 q2), h2.2.2.1.trans h.2.2.1, h2.2.2.2⟩
theorem TM.fr {σ u : St} (h : TM σ) (f : FrM σ u) : TM u := by
  unfold TM at h ⊢
  rw [f.1 90 (by decide) (by decide), f.1 91 (by decide) (by decide), f.1 92 (by decide) (by decide)]
  exact h
/-- the reference's cars -/
def CM (σ : St) : Prop := ∀ c, c < 4 → (0 ≤ σ.1 93 c ∧ σ.1 93 c ≤ 9) ∧ (0 ≤ σ.1 94 c ∧ σ.1 94 c ≤ 9) ∧ 0 ≤ σ.1 95 c ∧ σ.1 95 c ≤ 9
theorem CM.fr {σ u : St} (h : CM σ) (f : FrM σ u) : CM u := by
  unfold CM at h ⊢
  rw [f.1 93 (by decide) (by decide), f.1 94 (by decide) (by decide), f.1 95 (by decide) (by decide)]
  exact h
def rsM (σ : St) (t c : Nat) (r : RS) (i : Int) : RS := rsF (lenM σ t) (limM σ t) (σ.1 93 c) (σ.1 94 c) (σ.1 95 c) r i
def rideM (σ : St) (t c : Nat) (inp : Nat → Int) : Nat → RS := rfF (lenM σ t) (limM σ t) (σ.1 93 c) (σ.1 94 c) (σ.1 95 c) inp
theorem lenM_fr {σ u : St} {t : Nat} (f : FrM σ u) : lenM u t = lenM σ t := by
  unfold lenM lenRow
  rw [f.1 90 (by decide) (by decide), f.1 91 (by decide) (by decide)]
theorem limM_fr {σ u : St} {t : Nat} (f : FrM σ u) : limM u t = limM σ t := by
  funext p
  unfold limM lenRow
  rw [f.1 90 (by decide) (by decide), f.1 91 (by decide) (by decide), f.1 92 (by decide) (by decide)]
theorem rsM_fr {σ u : St} {t c : Nat} (f : FrM σ u) : rsM u t c = rsM σ t c := by
  unfold rsM
  rw [lenM_fr f, limM_fr f, f.1 93 (by decide) (by decide), f.1 94 (by decide) (by decide), f.1 95 (by decide) (by decide)]
theorem rideM_fr {σ u : St} {t c : Nat} {inp : Nat → Int} (f : FrM σ u) : rideM u t c inp = rideM σ t c inp := by
  unfold rideM
  rw [lenM_fr f, limM_fr f, f.1 93 (by decide) (by decide), f.1 94 (by decide) (by decide), f.1 95 (by decide) (by decide)]
def GoP (σ : St) (t c : Nat) (r : RS) (u : St) : Prop := FrM σ u ∧ u.1 89 28 = r.1 ∧ u.1 89 29 = r.2.1 ∧ u.1 89 30 = r.2.2.1 ∧ u.1 89 31 = if r.2.2.2 = true then 1 else 0
theorem go_end {σ u : St} {t c : Nat} {z i : Int} (hz : z = spdF (σ.1 93 c) (σ.1 94 c) (σ.1 89 29) i) (hf : FrM σ u) (h28 : u.1 89 28 = σ.1 89 28 + z) (h30 : u.1 89 30 = σ.1 89 30 + 1)
    (h : (lenM σ t ≤ σ.1 89 28 + z ∧ u.1 89 29 = z ∧ u.1 89 31 = 1) ∨ (¬ lenM σ t ≤ σ.1 89 28 + z ∧ (u.1 89 29 = if limM σ t (σ.1 89 28 + z) + σ.1 95 c < z then z / 2 else z) ∧ u.1 89 31 = 0)) : GoP σ t c (rsM σ t c (σ.1 89 28, σ.1 89 29, σ.1 89 30, false) i) u := by
  refine ⟨hf, ?_⟩
  unfold rsM rsF
  simp only
  rw [← hz]
  rcases h with ⟨a, b, d⟩ | ⟨a, b, d⟩
  · rw [if_pos a]
    exact ⟨h28, b, h30, by simp [d]⟩
  · rw [if_neg a]
    exact ⟨h28, b, h30, by simp [d]⟩
def MrP (σ : St) (t c : Nat) (inp : Nat → Int) (i : Nat) (u : St) : Prop := GoP σ t c (rideM σ t c inp i) u
theorem MrP.rg {σ u : St} {t c i : Nat} {inp : Nat → Int} (h : MrP σ t c inp i u) : RG u := h.1.2.2.2
theorem rfF_tick {len : Int} {lim : Int → Int} {top pull grip : Int} {inp : Nat → Int} : ∀ i : Nat, (rfF len lim top pull grip inp i).2.2.1 ≤ i ∧ (¬ (rfF len lim top pull grip inp i).2.2.2 = true → (rfF len lim top pull grip inp i).2.2.1 = i) := by
  intro i
  induction i with
  | zero => exact ⟨Int.le_refl 0, fun _ => rfl⟩
  | succ i ih =>
    rw [rfF]
    split
    · exact ⟨by omega, fun h => absurd (by assumption) h⟩
    · have e : ∀ r, (rsF len lim top pull grip r (inp i)).2.2.1 = r.2.2.1 + 1 := by intro r; unfold rsF; split <;> rfl
      rw [e, ih.2 (by assumption)]
      exact ⟨by omega, fun _ => by omega⟩
theorem rfF_ov {len : Int} {lim : Int → Int} {top pull grip : Int} {inp : Nat → Int} (hl : 0 < len) : ∀ i : Nat, ((rfF len lim top pull grip inp i).2.2.2 = true → len ≤ (rfF len lim top pull grip inp i).1 ∧ 0 < (rfF len lim top pull grip inp i).2.1) ∧ (¬ (rfF len lim top pull grip inp i).2.2.2 = true → (rfF len lim top pull grip inp i).1 < len) := by
  intro i
  induction i with
  | zero => exact ⟨fun h => by simp [rfF] at h, fun _ => hl⟩
  | succ i ih =>
    rw [rfF]
    split
    · rename_i h
      exact ⟨fun _ => ih.1 h, fun q => absurd h q⟩
    · rename_i h
      have := ih.2 h
      unfold rsF
      split
      · rename_i h2
        exact ⟨fun _ => ⟨h2, by simp only; omega⟩, fun q => absurd rfl q⟩
      · rename_i h2
        exact ⟨fun q => by simp at q, fun _ => by simp only; omega⟩
theorem mr_step {σ u v : St} {t c i : Nat} {inp : Nat → Int} (h : MrP σ t c inp i u) (hno : ¬ (rideM σ t c inp i).2.2.2 = true) (hg : GoP u t c (rsM u t c (u.1 89 28, u.1 89 29, u.1 89 30, false) (inp i)) v) : MrP σ t c inp (i + 1) v := by
  obtain ⟨f, e1, e2, e3, e4⟩ := h
  have hr : rideM σ t c inp (i + 1) = rsM σ t c (rideM σ t c inp i) (inp i) := by
    unfold rideM at hno ⊢
    rw [rfF, if_neg hno]
    rfl
  have hq : ((rideM σ t c inp i).1, (rideM σ t c inp i).2.1, (rideM σ t c inp i).2.2.1, false) = rideM σ t c inp i := by
    have : (rideM σ t c inp i).2.2.2 = false := by simpa using hno
    rw [← this]
  rw [rsM_fr f, e1, e2, e3, hq, ← hr] at hg
  exact ⟨f.tr hg.1, hg.2⟩
theorem mr_end {σ u : St} {t c i n : Nat} {inp : Nat → Int} (h : MrP σ t c inp i u) (hi : i ≤ n) (ho : (rideM σ t c inp i).2.2.2 = true) : MrP σ t c inp n u := by
  have e : rideM σ t c inp n = rideM σ t c inp i := by
    have q := rfF_over (i := i) ho (n - i)
    rw [show i + (n - i) = n by omega] at q
    exact q
  unfold MrP
  rw [e]
  exact h
theorem mr_b {σ u : St} {t c i : Nat} {inp : Nat → Int} (hC : CM σ) (hc : c < 4) (h : MrP σ t c inp i u) : 0 ≤ u.1 89 28 ∧ u.1 89 28 ≤ 9 * i ∧ 0 ≤ u.1 89 29 ∧ u.1 89 29 ≤ 9 ∧ 0 ≤ u.1 89 30 ∧ u.1 89 30 ≤ i := by
  obtain ⟨-, e1, e2, e3, -⟩ := h
  obtain ⟨⟨a1, a2⟩, ⟨a3, a4⟩, a5, a6⟩ := hC c hc
  rw [e1, e2, e3]
  exact rfF_b a3 a1 a2 i
theorem mr_tick {σ u : St} {t c i : Nat} {inp : Nat → Int} (h : MrP σ t c inp i u) (ho : ¬ (rideM σ t c inp i).2.2.2 = true) : u.1 89 30 = (i : Int) := by
  obtain ⟨-, -, -, e3, -⟩ := h
  rw [e3]
  exact (rfF_tick i).2 ho
theorem mr_31 {σ u : St} {t c i : Nat} {inp : Nat → Int} (h : MrP σ t c inp i u) : (u.1 89 31 = 1 ∧ (rideM σ t c inp i).2.2.2 = true) ∨ (u.1 89 31 = 0 ∧ ¬ (rideM σ t c inp i).2.2.2 = true) := by
  have e4 := h.2.2.2.2
  by_cases q : (rideM σ t c inp i).2.2.2 = true
  · rw [if_pos q] at e4; exact Or.inl ⟨e4, q⟩
  · rw [if_neg q] at e4; exact Or.inr ⟨e4, q⟩
theorem mr_fin0 {σ u : St} {t c i : Nat} {inp : Nat → Int} (h : MrP σ t c inp i u) : u.1 89 30 = (i : Int) ∨ (rideM σ t c inp i).2.2.2 = true := by
  rcases mr_31 h with q | q
  · exact Or.inr q.2
  · exact Or.inl (mr_tick h q.2)
theorem mr_no {σ u : St} {t c i : Nat} {inp : Nat → Int} (h : MrP σ t c inp i u) (q : u.1 89 31 = 0) : ¬ (rideM σ t c inp i).2.2.2 = true := by
  rcases mr_31 h with a | a
  · omega
  · exact a.2
theorem mr_yes {σ u : St} {t c i : Nat} {inp : Nat → Int} (h : MrP σ t c inp i u) (q : ¬ u.1 89 31 = 0) : (rideM σ t c inp i).2.2.2 = true := by
  rcases mr_31 h with a | a
  · exact a.2
  · omega
theorem mr_0 {σ : St} {t c : Nat} {inp : Nat → Int} (hR : RG σ) : MrP σ t c inp 0 (sw (sw (sw (sw σ 89 28 0) 89 29 0) 89 30 0) 89 31 0) := by
  have z : R32 0 := ⟨by decide, by decide⟩
  refine ⟨((((FrM.rf hR).sw 28 (by omega) z).sw 29 (by omega) z).sw 30 (by omega) z).sw 31 (by omega) z, ?_, ?_, ?_, ?_⟩ <;> simp [sw_get, rideM, rfF]
def canM (σ : St) (t c : Nat) (ty : Nat) : Prop := ¬ σ.1 90 t = 0 ∧ (rideM σ t c (σ.1 96) ty).2.2.2 = true
def tmM (σ : St) (t : Nat) (r : RS) : Int := 100 * r.2.2.1 - svF (r.1 - lenM σ t) r.2.1
def inM (σ : St) (l : Nat) : Nat → Int := fun k => σ.1 97 (60 * l + k)
def cntM (σ : St) (l : Nat) : Int := σ.1 99 l + σ.1 100 l
def ghM (σ : St) (gh tr : Int) : Prop := gh = -1 ∨ ((0 ≤ gh ∧ gh < σ.1 89 11) ∧ σ.1 102 gh.toNat = tr ∧ σ.1 107 gh.toNat = 0)
/-- every track that has a stretch has a length -/
def PM (σ : St) : Prop := ∀ t, t < 4 → ¬ σ.1 90 t = 0 → 0 < lenM σ t

theorem spdF_i {z top pull s i : Int} (h : (i = 43 ∧ ((s + pull < top ∧ z = s + pull) ∨ (¬ s + pull < top ∧ z = top))) ∨ (¬ i = 43 ∧ i = 45 ∧ ((0 < s - pull ∧ z = s - pull) ∨ (¬ 0 < s - pull ∧ z = 0))) ∨ (¬ i = 43 ∧ ¬ i = 45 ∧ z = s)) : z = spdF top pull s i := by
  unfold spdF
  rcases h with ⟨a, b | b⟩ | ⟨a, a2, b | b⟩ | ⟨a, a2, b⟩
  · rw [if_pos a, if_pos b.1]; exact b.2
  · rw [if_pos a, if_neg b.1]; exact b.2
  · rw [if_neg a, if_pos a2, if_pos b.1]; exact b.2
  · rw [if_neg a, if_pos a2, if_neg b.1]; exact b.2
  · rw [if_neg a, if_neg a2]; exact b
theorem limM_b {σ : St} (h : TM σ) {t : Nat} {p : Int} (ht : t < 4) : 0 ≤ limM σ t p ∧ limM σ t p ≤ 9 := by
  have hk := h.1 t ht
  unfold limM
  exact limG_b (k := (σ.1 90 t).toNat) (fun i hi => (h.2 (12 * t + i) (by omega)).2) _ 0 (by omega)

theorem mr_fin {σ u : St} {t c i n : Nat} {inp : Nat → Int} (h : MrP σ t c inp i u) (hi : i ≤ n) (ho : i = n ∨ (rideM σ t c inp i).2.2.2 = true) : MrP σ t c inp n u := by
  rcases ho with e | e
  · subst e; exact h
  · exact mr_end h hi e

theorem mr_fin2 {σ u : St} {t c i n : Nat} {inp : Nat → Int} {k : Int} (h : MrP σ t c inp i u) (hf : k = (i : Int) ∨ (rideM σ t c inp i).2.2.2 = true) (hi : i ≤ n ∧ (¬ (rideM σ t c inp i).2.2.2 = true → k = (i : Int) → i = n)) : MrP σ t c inp n u := by
  by_cases q : (rideM σ t c inp i).2.2.2 = true
  · exact mr_end h hi.1 q
  · rcases hf with e | e
    · have e2 := hi.2 q e
      subst e2
      exact h
    · exact absurd e q

theorem div_b {a b : Int} (h : 0 ≤ a) (h2 : 0 < b) : 0 ≤ a / b ∧ a / b ≤ a := ⟨Int.ediv_nonneg h (by omega), Int.ediv_le_self b h⟩

def canP (σ : St) (t c n : Nat) (z : Int) (u : St) : Prop := FrM σ u ∧ ((z = 1 ∧ canM σ t c n ∧ MrP σ t c (σ.1 96) n u) ∨ (z = 0 ∧ ¬ canM σ t c n))
theorem can_0 {σ : St} {t c n : Nat} (hR : RG σ) (h : σ.1 90 t = 0) : canP σ t c n 0 σ := ⟨FrM.rf hR, Or.inr ⟨rfl, fun q => q.1 h⟩⟩
theorem can_1 {σ u : St} {t c n : Nat} (h : ¬ σ.1 90 t = 0) (hv : MrP σ t c (σ.1 96) n u) : canP σ t c n (u.1 89 31) u := by
  refine ⟨hv.1, ?_⟩
  rcases mr_31 hv with ⟨a, b⟩ | ⟨a, b⟩
  · exact Or.inl ⟨a, ⟨h, b⟩, hv⟩
  · exact Or.inr ⟨a, fun q => b q.2⟩

set_option maxRecDepth 100000 in
set_option maxHeartbeats 4000000 in
theorem m_X7_starts (g : Geo) (l : Launch) (hl9 : l.stackTraces = false) (σ : St) (hR : RG σ) : Met l yX7_starts wsX7_starts ({ frames := 0, cells := 0, slots := 0, locals := 0 }) (va_Pc [.ref (ga g (89))] (World g σ)) (QV g (fun u => u = sw (sw (sw (sw σ 89 28 0) 89 29 0) 89 30 0) 89 31 0)) 0 0 (gA g) := by
  refine V_met hl9 (by decide) rfl (Nat.le_of_ble_eq_true rfl) ?_
  intro p9 e9 s9 m9 b9 t9 c9 X hr _
  refine V_lv (lv' := [(0, .ref (ga g (89)))]) rfl ?_
  refine V_aload_n X 0 rfl dX7_starts_0 rfl ?_
  refine V_iconst X dX7_starts_1 ?_
  refine V_put X (ci := 7) (89) (by decide) (rfl) (by decide) rfl (fun _ h => List.mem_cons_of_mem _ (List.mem_append_right _ h)) 28 (by decide) (List.mem_of_getElem? (i := 1) rfl) rfl tyX7 tyX7_ok nmX7 rfl rfl rfl rfl rfl (Nat.le_of_ble_eq_true rfl) dX7_starts_2 ?_
  refine V_aload_n X 0 rfl dX7_starts_5 rfl ?_
  refine V_iconst X dX7_starts_6 ?_
  refine V_put X (ci := 7) (89) (by decide) (rfl) (by decide) rfl (fun _ h => List.mem_cons_of_mem _ (List.mem_append_right _ h)) 29 (by decide) (List.mem_of_getElem? (i := 2) rfl) rfl tyX7 tyX7_ok nmX7 rfl rfl rfl rfl rfl (Nat.le_of_ble_eq_true rfl) dX7_starts_7 ?_
  refine V_aload_n X 0 rfl dX7_starts_10 rfl ?_
  refine V_iconst X dX7_starts_11 ?_
  refine V_put X (ci := 7) (89) (by decide) (rfl) (by decide) rfl (fun _ h => List.mem_cons_of_mem _ (List.mem_append_right _ h)) 30 (by decide) (List.mem_of_getElem? (i := 3) rfl) rfl tyX7 tyX7_ok nmX7 rfl rfl rfl rfl rfl (Nat.le_of_ble_eq_true rfl) dX7_starts_12 ?_
  refine V_aload_n X 0 rfl dX7_starts_15 rfl ?_
  refine V_iconst X dX7_starts_16 ?_
  refine V_put X (ci := 7) (89) (by decide) (rfl) (by decide) rfl (fun _ h => List.mem_cons_of_mem _ (List.mem_append_right _ h)) 31 (by decide) (List.mem_of_getElem? (i := 4) rfl) rfl tyX7 tyX7_ok nmX7 rfl rfl (iN_bool (Or.inl rfl)).1 (iN_bool (Or.inl rfl)).2 rfl (Nat.le_of_ble_eq_true rfl) dX7_starts_17 ?_
  exact V_vret X hr (by exact rfl) dX7_starts_20 (by decide) (by decide)
set_option maxRecDepth 100000 in
set_option maxHeartbeats 4000000 in
theorem m_X7_goes (g : Geo) (l : Launch) (hl9 : l.stackTraces = false) (σ : St) (hR : RG σ) (hTM : TM σ) (hCM : CM σ) (a b i : Int) (ha : 0 ≤ a ∧ a < 4) (hb : 0 ≤ b ∧ b < 4) (hi : R32 i) (b1 : 0 ≤ σ.1 89 28) (b2 : σ.1 89 28 ≤ 9000) (b3 : 0 ≤ σ.1 89 29) (b4 : σ.1 89 29 ≤ 9) (b5 : 0 ≤ σ.1 89 30) (b6 : σ.1 89 30 ≤ 1000) : Met l yX7_goes wsX7_goes ({ frames := 1, cells := 0, slots := 0, locals := 24 }) (va_Pc [.ref (ga g (89)), .int (iN (a)), .int (iN (b)), .int (iN (i))] (World g σ)) (QV g (fun u => GoP σ a.toNat b.toNat (rsM σ a.toNat b.toNat (σ.1 89 28, σ.1 89 29, σ.1 89 30, false) i) u ∧ u.1 89 0 = σ.1 89 0)) 0 0 (gA g) := by
  refine V_met hl9 (by decide) rfl (Nat.le_of_ble_eq_true rfl) ?_
  intro p9 e9 s9 m9 b9 t9 c9 X hr _
  have hcc := hCM b.toNat (by omega)
  have hlen0 := lenM_b hTM (t := a.toNat) (by omega)
  refine V_lv (lv' := [(0, .ref (ga g (89))), (1, .int (iN (a))), (2, .int (iN (b))), (3, .int (iN (i)))]) rfl ?_
  refine V_iload_n X 3 rfl dX7_goes_0 rfl ?_
  refine V_bipush X (by decide) dX7_goes_1 ?_
  refine V_icmp_ne X 53 hi ⟨by decide, by decide⟩ dX7_goes_3 (by decide) (fun q1 => ?_) (fun q1 => ?_)
  · skip
    refine V_iload_n X 3 rfl dX7_goes_53 rfl ?_
    refine V_bipush X (by decide) dX7_goes_54 ?_
    refine V_icmp_ne X 91 hi ⟨by decide, by decide⟩ dX7_goes_56 (by decide) (fun q2 => ?_) (fun q2 => ?_)
    · skip
      refine V_aload_n X 0 rfl dX7_goes_91 rfl ?_
      refine V_dup X rfl dX7_goes_92 ?_
      refine V_get X (ci := 7) (89) (by decide) (rfl) (by decide) rfl (fun _ h => List.mem_cons_of_mem _ (List.mem_append_right _ h)) 28 (by decide) (List.mem_of_getElem? (i := 4) rfl) rfl rfl dX7_goes_93 ?_
      refine V_aload_n X 0 rfl dX7_goes_96 rfl ?_
      refine V_get X (ci := 7) (89) (by decide) (rfl) (by decide) rfl (fun _ h => List.mem_cons_of_mem _ (List.mem_append_right _ h)) 29 (by decide) (List.mem_of_getElem? (i := 1) rfl) rfl rfl dX7_goes_97 ?_
      refine V_iadd X dX7_goes_100 ?_
      refine V_put X (ci := 7) (89) (by decide) (rfl) (by decide) rfl (fun _ h => List.mem_cons_of_mem _ (List.mem_append_right _ h)) 28 (by decide) (List.mem_of_getElem? (i := 4) rfl) rfl tyX7 tyX7_ok nmX7 rfl rfl rfl rfl rfl (Nat.le_of_ble_eq_true rfl) dX7_goes_101 ?_
      refine V_aload_n X 0 rfl dX7_goes_104 rfl ?_
      refine V_dup X rfl dX7_goes_105 ?_
      refine V_get X (ci := 7) (89) (by decide) (rfl) (by decide) rfl (fun _ h => List.mem_cons_of_mem _ (List.mem_append_right _ h)) 30 (by decide) (List.mem_of_getElem? (i := 5) rfl) rfl rfl dX7_goes_106 ?_
      refine V_top (b := σ.1 89 30) (rd_k (by decide)) ?_
      refine V_iconst X dX7_goes_109 ?_
      refine V_iadd X dX7_goes_110 ?_
      refine V_put X (ci := 7) (89) (by decide) (rfl) (by decide) rfl (fun _ h => List.mem_cons_of_mem _ (List.mem_append_right _ h)) 30 (by decide) (List.mem_of_getElem? (i := 5) rfl) rfl tyX7 tyX7_ok nmX7 rfl rfl rfl rfl rfl (Nat.le_of_ble_eq_true rfl) dX7_goes_111 ?_
      refine V_aload_n X 0 rfl dX7_goes_114 rfl ?_
      refine V_aload_n X 0 rfl dX7_goes_115 rfl ?_
      refine V_get X (ci := 7) (89) (by decide) (rfl) (by decide) rfl (fun _ h => List.mem_cons_of_mem _ (List.mem_append_right _ h)) 28 (by decide) (List.mem_of_getElem? (i := 4) rfl) rfl rfl dX7_goes_116 ?_
      refine V_top (b := (σ.1 89 28) + (σ.1 89 29)) (Eq.trans (rd_k (by decide)) rd_s) ?_
      refine V_aload_n X 0 rfl dX7_goes_119 rfl ?_
      refine V_iload_n X 1 rfl dX7_goes_120 rfl ?_
      refine V_callV_I X (na := 1) (ci := 7) (b0 := 89) (by decide) (rfl) (by decide) rfl (m_X7_lengthNow g l hl9 (sw (sw σ (89) (28) ((σ.1 89 28) + (σ.1 89 29))) (89) (30) ((σ.1 89 30) + 1)) (((hR).sw _ _ ⟨by omega, by omega⟩).sw _ _ ⟨by omega, by omega⟩) (TM.code (TM.code hTM)) a ha) gX7_goes_X7_lengthNow rfl rfl rfl (by decide +kernel) ⟨Nat.le_of_ble_eq_true rfl, Nat.le_of_ble_eq_true rfl⟩ rfl rfl (Nat.le_of_ble_eq_true rfl) ⟨Nat.le_of_ble_eq_true rfl, Nat.le_of_ble_eq_true rfl⟩ dX7_goes_121 (fun z3 u4 z3r hp5 => ?_)
      obtain ⟨hz, hu6⟩ := hp5
      have hu6 := hu6.symm
      subst hu6
      have hz2 : z3 = lenM σ a.toNat := hz
      subst hz2
      refine V_icmp_lt X 131 ⟨by omega, by omega⟩ ⟨by omega, by omega⟩ dX7_goes_124 (by decide) (fun q7 => ?_) (fun q7 => ?_)
      · skip
        refine V_iconst X dX7_goes_131 ?_
        refine V_put X (ci := 7) (89) (by decide) (rfl) (by decide) rfl (fun _ h => List.mem_cons_of_mem _ (List.mem_append_right _ h)) 31 (by decide) (List.mem_of_getElem? (i := 6) rfl) rfl tyX7 tyX7_ok nmX7 rfl rfl (iN_bool (Or.inl rfl)).1 (iN_bool (Or.inl rfl)).2 rfl (Nat.le_of_ble_eq_true rfl) dX7_goes_132 ?_
        refine V_aload_n X 0 rfl dX7_goes_135 rfl ?_
        refine V_get X (ci := 7) (89) (by decide) (rfl) (by decide) rfl (fun _ h => List.mem_cons_of_mem _ (List.mem_append_right _ h)) 31 (by decide) (List.mem_of_getElem? (i := 6) rfl) rfl rfl dX7_goes_136 ?_
        refine V_top (b := 0) rd_s ?_
        refine V_if_ne X 175 ⟨by decide, by decide⟩ dX7_goes_139 (by decide) (fun h => absurd h (by first | decide | omega)) (fun _ => ?_)
        refine V_aload_n X 0 rfl dX7_goes_142 rfl ?_
        refine V_get X (ci := 7) (89) (by decide) (rfl) (by decide) rfl (fun _ h => List.mem_cons_of_mem _ (List.mem_append_right _ h)) 29 (by decide) (List.mem_of_getElem? (i := 1) rfl) rfl rfl dX7_goes_143 ?_
        refine V_top (b := σ.1 89 29) (Eq.trans (rd_k (by decide)) (Eq.trans (rd_k (by decide)) (rd_k (by decide)))) ?_
        refine V_aload_n X 0 rfl dX7_goes_146 rfl ?_
        refine V_iload_n X 1 rfl dX7_goes_147 rfl ?_
        refine V_aload_n X 0 rfl dX7_goes_148 rfl ?_
        refine V_get X (ci := 7) (89) (by decide) (rfl) (by decide) rfl (fun _ h => List.mem_cons_of_mem _ (List.mem_append_right _ h)) 28 (by decide) (List.mem_of_getElem? (i := 4) rfl) rfl rfl dX7_goes_149 ?_
        refine V_top (b := (σ.1 89 28) + (σ.1 89 29)) (Eq.trans (rd_k (by decide)) (Eq.trans (rd_k (by decide)) rd_s)) ?_
        refine V_callV_I X (na := 2) (ci := 7) (b0 := 89) (by decide) (rfl) (by decide) rfl (m_X7_limitNow g l hl9 (sw (sw (sw σ (89) (28) ((σ.1 89 28) + (σ.1 89 29))) (89) (30) ((σ.1 89 30) + 1)) (89) (31) (0)) ((((hR).sw _ _ ⟨by omega, by omega⟩).sw _ _ ⟨by omega, by omega⟩).sw _ _ ⟨by decide, by decide⟩) (TM.code (TM.code (TM.code hTM))) a ((σ.1 89 28) + (σ.1 89 29)) ha (by omega) (by show (σ.1 89 28) + (σ.1 89 29) < lenM σ a.toNat; omega)) gX7_goes_X7_limitNow rfl rfl rfl (by decide +kernel) ⟨Nat.le_of_ble_eq_true rfl, Nat.le_of_ble_eq_true rfl⟩ rfl rfl (Nat.le_of_ble_eq_true rfl) ⟨Nat.le_of_ble_eq_true rfl, Nat.le_of_ble_eq_true rfl⟩ dX7_goes_152 (fun z8 u9 z8r hp10 => ?_)
        obtain ⟨hzl, hu11⟩ := hp10
        have hu11 := hu11.symm
        subst hu11
        have hz3 : z8 = limM σ a.toNat ((σ.1 89 28) + (σ.1 89 29)) := hzl
        have hlb := limM_b hTM (t := a.toNat) (p := (σ.1 89 28) + (σ.1 89 29)) (by omega)
        rw [← hz3] at hlb
        refine V_aload_n X 0 rfl dX7_goes_155 rfl ?_
        refine V_get X (ci := 7) (89) (by decide) (rfl) (by decide) rfl (fun _ h => List.mem_cons_of_mem _ (List.mem_append_right _ h)) 8 (by decide) (List.mem_of_getElem? (i := 7) rfl) rfl rfl dX7_goes_156 ?_
        refine V_iload_n X 2 rfl dX7_goes_159 rfl ?_
        refine V_iald X (N := 4) (95) (by decide) (rfl) (rfl) (by decide) (b.toNat) (by omega) (by omega) dX7_goes_160 ?_
        refine V_top (b := σ.1 (95) (b.toNat)) (Eq.trans (rd_n (by decide)) (Eq.trans (rd_n (by decide)) (rd_n (by decide)))) ?_
        refine V_iadd X dX7_goes_161 ?_
        refine V_icmp_le X 175 (hR _ _) ⟨by omega, by omega⟩ dX7_goes_162 (by decide) (fun q12 => ?_) (fun q12 => ?_)
        · skip
          exact V_vret X hr (by exact ⟨go_end (z := σ.1 89 29) (spdF_i (by omega)) ((((FrM.rf hR).sw 28 (by omega) ⟨by omega, by omega⟩).sw 30 (by omega) ⟨by omega, by omega⟩).sw 31 (by omega) ⟨by decide, by decide⟩) (Eq.trans (rd_k (by decide)) (Eq.trans (rd_k (by decide)) rd_s)) (Eq.trans (rd_k (by decide)) rd_s) (Or.inr ⟨by omega, by rw [if_neg (by omega)]; exact (Eq.trans (rd_k (by decide)) (Eq.trans (rd_k (by decide)) (rd_k (by decide)))), rd_s⟩), (Eq.trans (rd_k (by decide)) (Eq.trans (rd_k (by decide)) (rd_k (by decide))))⟩) dX7_goes_175 (by decide) (by decide)
        · skip
          refine V_aload_n X 0 rfl dX7_goes_165 rfl ?_
          refine V_aload_n X 0 rfl dX7_goes_166 rfl ?_
          refine V_get X (ci := 7) (89) (by decide) (rfl) (by decide) rfl (fun _ h => List.mem_cons_of_mem _ (List.mem_append_right _ h)) 29 (by decide) (List.mem_of_getElem? (i := 1) rfl) rfl rfl dX7_goes_167 ?_
          refine V_top (b := σ.1 89 29) (Eq.trans (rd_k (by decide)) (Eq.trans (rd_k (by decide)) (rd_k (by decide)))) ?_
          refine V_iconst X dX7_goes_170 ?_
          refine V_idiv X (by omega) (by omega) (by omega) (by omega) dX7_goes_171 ?_
          refine V_put X (ci := 7) (89) (by decide) (rfl) (by decide) rfl (fun _ h => List.mem_cons_of_mem _ (List.mem_append_right _ h)) 29 (by decide) (List.mem_of_getElem? (i := 1) rfl) rfl tyX7 tyX7_ok nmX7 rfl rfl rfl rfl rfl (Nat.le_of_ble_eq_true rfl) dX7_goes_172 ?_
          exact V_vret X hr (by exact ⟨go_end (z := σ.1 89 29) (spdF_i (by omega)) (((((FrM.rf hR).sw 28 (by omega) ⟨by omega, by omega⟩).sw 30 (by omega) ⟨by omega, by omega⟩).sw 31 (by omega) ⟨by decide, by decide⟩).sw 29 (by omega) ⟨by omega, by omega⟩) (Eq.trans (rd_k (by decide)) (Eq.trans (rd_k (by decide)) (Eq.trans (rd_k (by decide)) rd_s))) (Eq.trans (rd_k (by decide)) (Eq.trans (rd_k (by decide)) rd_s)) (Or.inr ⟨by omega, by rw [if_pos (by omega)]; exact rd_s, (Eq.trans (rd_k (by decide)) rd_s)⟩), (Eq.trans (rd_k (by decide)) (Eq.trans (rd_k (by decide)) (Eq.trans (rd_k (by decide)) (rd_k (by decide)))))⟩) dX7_goes_175 (by decide) (by decide)
      · skip
        refine V_iconst X dX7_goes_127 ?_
        refine V_goto X 132 dX7_goes_128 (by decide) ?_
        refine V_put X (ci := 7) (89) (by decide) (rfl) (by decide) rfl (fun _ h => List.mem_cons_of_mem _ (List.mem_append_right _ h)) 31 (by decide) (List.mem_of_getElem? (i := 6) rfl) rfl tyX7 tyX7_ok nmX7 rfl rfl (iN_bool (Or.inr rfl)).1 (iN_bool (Or.inr rfl)).2 rfl (Nat.le_of_ble_eq_true rfl) dX7_goes_132 ?_
        refine V_aload_n X 0 rfl dX7_goes_135 rfl ?_
        refine V_get X (ci := 7) (89) (by decide) (rfl) (by decide) rfl (fun _ h => List.mem_cons_of_mem _ (List.mem_append_right _ h)) 31 (by decide) (List.mem_of_getElem? (i := 6) rfl) rfl rfl dX7_goes_136 ?_
        refine V_top (b := 1) rd_s ?_
        refine V_if_ne X 175 ⟨by decide, by decide⟩ dX7_goes_139 (by decide) (fun _ => ?_) (fun h => absurd h (by first | decide | omega))
        exact V_vret X hr (by exact ⟨go_end (z := σ.1 89 29) (spdF_i (by omega)) ((((FrM.rf hR).sw 28 (by omega) ⟨by omega, by omega⟩).sw 30 (by omega) ⟨by omega, by omega⟩).sw 31 (by omega) ⟨by decide, by decide⟩) (Eq.trans (rd_k (by decide)) (Eq.trans (rd_k (by decide)) rd_s)) (Eq.trans (rd_k (by decide)) rd_s) (Or.inl ⟨by omega, (Eq.trans (rd_k (by decide)) (Eq.trans (rd_k (by decide)) (rd_k (by decide)))), rd_s⟩), (Eq.trans (rd_k (by decide)) (Eq.trans (rd_k (by decide)) (rd_k (by decide))))⟩) dX7_goes_175 (by decide) (by decide)
    · skip
      refine V_aload_n X 0 rfl dX7_goes_59 rfl ?_
      refine V_aload_n X 0 rfl dX7_goes_60 rfl ?_
      refine V_get X (ci := 7) (89) (by decide) (rfl) (by decide) rfl (fun _ h => List.mem_cons_of_mem _ (List.mem_append_right _ h)) 29 (by decide) (List.mem_of_getElem? (i := 1) rfl) rfl rfl dX7_goes_61 ?_
      refine V_aload_n X 0 rfl dX7_goes_64 rfl ?_
      refine V_get X (ci := 7) (89) (by decide) (rfl) (by decide) rfl (fun _ h => List.mem_cons_of_mem _ (List.mem_append_right _ h)) 7 (by decide) (List.mem_of_getElem? (i := 2) rfl) rfl rfl dX7_goes_65 ?_
      refine V_iload_n X 2 rfl dX7_goes_68 rfl ?_
      refine V_iald X (N := 4) (94) (by decide) (rfl) (rfl) (by decide) (b.toNat) (by omega) (by omega) dX7_goes_69 ?_
      refine V_icmp_ge X 77 (hR _ _) (hR _ _) dX7_goes_70 (by decide) (fun q13 => ?_) (fun q13 => ?_)
      · skip
        refine V_aload_n X 0 rfl dX7_goes_77 rfl ?_
        refine V_get X (ci := 7) (89) (by decide) (rfl) (by decide) rfl (fun _ h => List.mem_cons_of_mem _ (List.mem_append_right _ h)) 29 (by decide) (List.mem_of_getElem? (i := 1) rfl) rfl rfl dX7_goes_78 ?_
        refine V_aload_n X 0 rfl dX7_goes_81 rfl ?_
        refine V_get X (ci := 7) (89) (by decide) (rfl) (by decide) rfl (fun _ h => List.mem_cons_of_mem _ (List.mem_append_right _ h)) 7 (by decide) (List.mem_of_getElem? (i := 2) rfl) rfl rfl dX7_goes_82 ?_
        refine V_iload_n X 2 rfl dX7_goes_85 rfl ?_
        refine V_iald X (N := 4) (94) (by decide) (rfl) (rfl) (by decide) (b.toNat) (by omega) (by omega) dX7_goes_86 ?_
        refine V_isub X dX7_goes_87 ?_
        refine V_put X (ci := 7) (89) (by decide) (rfl) (by decide) rfl (fun _ h => List.mem_cons_of_mem _ (List.mem_append_right _ h)) 29 (by decide) (List.mem_of_getElem? (i := 1) rfl) rfl tyX7 tyX7_ok nmX7 rfl rfl rfl rfl rfl (Nat.le_of_ble_eq_true rfl) dX7_goes_88 ?_
        refine V_aload_n X 0 rfl dX7_goes_91 rfl ?_
        refine V_dup X rfl dX7_goes_92 ?_
        refine V_get X (ci := 7) (89) (by decide) (rfl) (by decide) rfl (fun _ h => List.mem_cons_of_mem _ (List.mem_append_right _ h)) 28 (by decide) (List.mem_of_getElem? (i := 4) rfl) rfl rfl dX7_goes_93 ?_
        refine V_top (b := σ.1 89 28) (rd_k (by decide)) ?_
        refine V_aload_n X 0 rfl dX7_goes_96 rfl ?_
        refine V_get X (ci := 7) (89) (by decide) (rfl) (by decide) rfl (fun _ h => List.mem_cons_of_mem _ (List.mem_append_right _ h)) 29 (by decide) (List.mem_of_getElem? (i := 1) rfl) rfl rfl dX7_goes_97 ?_
        refine V_top (b := (σ.1 89 29) - (σ.1 (94) (b.toNat))) rd_s ?_
        refine V_iadd X dX7_goes_100 ?_
        refine V_put X (ci := 7) (89) (by decide) (rfl) (by decide) rfl (fun _ h => List.mem_cons_of_mem _ (List.mem_append_right _ h)) 28 (by decide) (List.mem_of_getElem? (i := 4) rfl) rfl tyX7 tyX7_ok nmX7 rfl rfl rfl rfl rfl (Nat.le_of_ble_eq_true rfl) dX7_goes_101 ?_
        refine V_aload_n X 0 rfl dX7_goes_104 rfl ?_
        refine V_dup X rfl dX7_goes_105 ?_
        refine V_get X (ci := 7) (89) (by decide) (rfl) (by decide) rfl (fun _ h => List.mem_cons_of_mem _ (List.mem_append_right _ h)) 30 (by decide) (List.mem_of_getElem? (i := 5) rfl) rfl rfl dX7_goes_106 ?_
        refine V_top (b := σ.1 89 30) (Eq.trans (rd_k (by decide)) (rd_k (by decide))) ?_
        refine V_iconst X dX7_goes_109 ?_
        refine V_iadd X dX7_goes_110 ?_
        refine V_put X (ci := 7) (89) (by decide) (rfl) (by decide) rfl (fun _ h => List.mem_cons_of_mem _ (List.mem_append_right _ h)) 30 (by decide) (List.mem_of_getElem? (i := 5) rfl) rfl tyX7 tyX7_ok nmX7 rfl rfl rfl rfl rfl (Nat.le_of_ble_eq_true rfl) dX7_goes_111 ?_
        refine V_aload_n X 0 rfl dX7_goes_114 rfl ?_
        refine V_aload_n X 0 rfl dX7_goes_115 rfl ?_
        refine V_get X (ci := 7) (89) (by decide) (rfl) (by decide) rfl (fun _ h => List.mem_cons_of_mem _ (List.mem_append_right _ h)) 28 (by decide) (List.mem_of_getElem? (i := 4) rfl) rfl rfl dX7_goes_116 ?_
        refine V_top (b := (σ.1 89 28) + ((σ.1 89 29) - (σ.1 (94) (b.toNat)))) (Eq.trans (rd_k (by decide)) rd_s) ?_
        refine V_aload_n X 0 rfl dX7_goes_119 rfl ?_
        refine V_iload_n X 1 rfl dX7_goes_120 rfl ?_
        refine V_callV_I X (na := 1) (ci := 7) (b0 := 89) (by decide) (rfl) (by decide) rfl (m_X7_lengthNow g l hl9 (sw (sw (sw σ (89) (29) ((σ.1 89 29) - (σ.1 (94) (b.toNat)))) (89) (28) ((σ.1 89 28) + ((σ.1 89 29) - (σ.1 (94) (b.toNat))))) (89) (30) ((σ.1 89 30) + 1)) ((((hR).sw _ _ ⟨by omega, by omega⟩).sw _ _ ⟨by omega, by omega⟩).sw _ _ ⟨by omega, by omega⟩) (TM.code (TM.code (TM.code hTM))) a ha) gX7_goes_X7_lengthNow rfl rfl rfl (by decide +kernel) ⟨Nat.le_of_ble_eq_true rfl, Nat.le_of_ble_eq_true rfl⟩ rfl rfl (Nat.le_of_ble_eq_true rfl) ⟨Nat.le_of_ble_eq_true rfl, Nat.le_of_ble_eq_true rfl⟩ dX7_goes_121 (fun z14 u15 z14r hp16 => ?_)
        obtain ⟨hz, hu17⟩ := hp16
        have hu17 := hu17.symm
        subst hu17
        have hz2 : z14 = lenM σ a.toNat := hz
        subst hz2
        refine V_icmp_lt X 131 ⟨by omega, by omega⟩ ⟨by omega, by omega⟩ dX7_goes_124 (by decide) (fun q18 => ?_) (fun q18 => ?_)
        · skip
          refine V_iconst X dX7_goes_131 ?_
          refine V_put X (ci := 7) (89) (by decide) (rfl) (by decide) rfl (fun _ h => List.mem_cons_of_mem _ (List.mem_append_right _ h)) 31 (by decide) (List.mem_of_getElem? (i := 6) rfl) rfl tyX7 tyX7_ok nmX7 rfl rfl (iN_bool (Or.inl rfl)).1 (iN_bool (Or.inl rfl)).2 rfl (Nat.le_of_ble_eq_true rfl) dX7_goes_132 ?_
          refine V_aload_n X 0 rfl dX7_goes_135 rfl ?_
          refine V_get X (ci := 7) (89) (by decide) (rfl) (by decide) rfl (fun _ h => List.mem_cons_of_mem _ (List.mem_append_right _ h)) 31 (by decide) (List.mem_of_getElem? (i := 6) rfl) rfl rfl dX7_goes_136 ?_
          refine V_top (b := 0) rd_s ?_
          refine V_if_ne X 175 ⟨by decide, by decide⟩ dX7_goes_139 (by decide) (fun h => absurd h (by first | decide | omega)) (fun _ => ?_)
          refine V_aload_n X 0 rfl dX7_goes_142 rfl ?_
          refine V_get X (ci := 7) (89) (by decide) (rfl) (by decide) rfl (fun _ h => List.mem_cons_of_mem _ (List.mem_append_right _ h)) 29 (by decide) (List.mem_of_getElem? (i := 1) rfl) rfl rfl dX7_goes_143 ?_
          refine V_top (b := (σ.1 89 29) - (σ.1 (94) (b.toNat))) (Eq.trans (rd_k (by decide)) (Eq.trans (rd_k (by decide)) (Eq.trans (rd_k (by decide)) rd_s))) ?_
          refine V_aload_n X 0 rfl dX7_goes_146 rfl ?_
          refine V_iload_n X 1 rfl dX7_goes_147 rfl ?_
          refine V_aload_n X 0 rfl dX7_goes_148 rfl ?_
          refine V_get X (ci := 7) (89) (by decide) (rfl) (by decide) rfl (fun _ h => List.mem_cons_of_mem _ (List.mem_append_right _ h)) 28 (by decide) (List.mem_of_getElem? (i := 4) rfl) rfl rfl dX7_goes_149 ?_
          refine V_top (b := (σ.1 89 28) + ((σ.1 89 29) - (σ.1 (94) (b.toNat)))) (Eq.trans (rd_k (by decide)) (Eq.trans (rd_k (by decide)) rd_s)) ?_
          refine V_callV_I X (na := 2) (ci := 7) (b0 := 89) (by decide) (rfl) (by decide) rfl (m_X7_limitNow g l hl9 (sw (sw (sw (sw σ (89) (29) ((σ.1 89 29) - (σ.1 (94) (b.toNat)))) (89) (28) ((σ.1 89 28) + ((σ.1 89 29) - (σ.1 (94) (b.toNat))))) (89) (30) ((σ.1 89 30) + 1)) (89) (31) (0)) (((((hR).sw _ _ ⟨by omega, by omega⟩).sw _ _ ⟨by omega, by omega⟩).sw _ _ ⟨by omega, by omega⟩).sw _ _ ⟨by decide, by decide⟩) (TM.code (TM.code (TM.code (TM.code hTM)))) a ((σ.1 89 28) + ((σ.1 89 29) - (σ.1 (94) (b.toNat)))) ha (by omega) (by show (σ.1 89 28) + ((σ.1 89 29) - (σ.1 (94) (b.toNat))) < lenM σ a.toNat; omega)) gX7_goes_X7_limitNow rfl rfl rfl (by decide +kernel) ⟨Nat.le_of_ble_eq_true rfl, Nat.le_of_ble_eq_true rfl⟩ rfl rfl (Nat.le_of_ble_eq_true rfl) ⟨Nat.le_of_ble_eq_true rfl, Nat.le_of_ble_eq_true rfl⟩ dX7_goes_152 (fun z19 u20 z19r hp21 => ?_)
          obtain ⟨hzl, hu22⟩ := hp21
          have hu22 := hu22.symm
          subst hu22
          have hz3 : z19 = limM σ a.toNat ((σ.1 89 28) + ((σ.1 89 29) - (σ.1 (94) (b.toNat)))) := hzl
          have hlb := limM_b hTM (t := a.toNat) (p := (σ.1 89 28) + ((σ.1 89 29) - (σ.1 (94) (b.toNat)))) (by omega)
          rw [← hz3] at hlb
          refine V_aload_n X 0 rfl dX7_goes_155 rfl ?_
          refine V_get X (ci := 7) (89) (by decide) (rfl) (by decide) rfl (fun _ h => List.mem_cons_of_mem _ (List.mem_append_right _ h)) 8 (by decide) (List.mem_of_getElem? (i := 7) rfl) rfl rfl dX7_goes_156 ?_
          refine V_iload_n X 2 rfl dX7_goes_159 rfl ?_
          refine V_iald X (N := 4) (95) (by decide) (rfl) (rfl) (by decide) (b.toNat) (by omega) (by omega) dX7_goes_160 ?_
          refine V_top (b := σ.1 (95) (b.toNat)) (Eq.trans (rd_n (by decide)) (Eq.trans (rd_n (by decide)) (Eq.trans (rd_n (by decide)) (rd_n (by decide))))) ?_
          refine V_iadd X dX7_goes_161 ?_
          refine V_icmp_le X 175 ⟨by omega, by omega⟩ ⟨by omega, by omega⟩ dX7_goes_162 (by decide) (fun q23 => ?_) (fun q23 => ?_)
          · skip
            exact V_vret X hr (by exact ⟨go_end (z := (σ.1 89 29) - (σ.1 (94) (b.toNat))) (spdF_i (by omega)) (((((FrM.rf hR).sw 29 (by omega) ⟨by omega, by omega⟩).sw 28 (by omega) ⟨by omega, by omega⟩).sw 30 (by omega) ⟨by omega, by omega⟩).sw 31 (by omega) ⟨by decide, by decide⟩) (Eq.trans (rd_k (by decide)) (Eq.trans (rd_k (by decide)) rd_s)) (Eq.trans (rd_k (by decide)) rd_s) (Or.inr ⟨by omega, by rw [if_neg (by omega)]; exact (Eq.trans (rd_k (by decide)) (Eq.trans (rd_k (by decide)) (Eq.trans (rd_k (by decide)) rd_s))), rd_s⟩), (Eq.trans (rd_k (by decide)) (Eq.trans (rd_k (by decide)) (Eq.trans (rd_k (by decide)) (rd_k (by decide)))))⟩) dX7_goes_175 (by decide) (by decide)
          · skip
            refine V_aload_n X 0 rfl dX7_goes_165 rfl ?_
            refine V_aload_n X 0 rfl dX7_goes_166 rfl ?_
            refine V_get X (ci := 7) (89) (by decide) (rfl) (by decide) rfl (fun _ h => List.mem_cons_of_mem _ (List.mem_append_right _ h)) 29 (by decide) (List.mem_of_getElem? (i := 1) rfl) rfl rfl dX7_goes_167 ?_
            refine V_top (b := (σ.1 89 29) - (σ.1 (94) (b.toNat))) (Eq.trans (rd_k (by decide)) (Eq.trans (rd_k (by decide)) (Eq.trans (rd_k (by decide)) rd_s))) ?_
            refine V_iconst X dX7_goes_170 ?_
            refine V_idiv X (by omega) (by omega) (by omega) (by omega) dX7_goes_171 ?_
            refine V_put X (ci := 7) (89) (by decide) (rfl) (by decide) rfl (fun _ h => List.mem_cons_of_mem _ (List.mem_append_right _ h)) 29 (by decide) (List.mem_of_getElem? (i := 1) rfl) rfl tyX7 tyX7_ok nmX7 rfl rfl rfl rfl rfl (Nat.le_of_ble_eq_true rfl) dX7_goes_172 ?_
            exact V_vret X hr (by exact ⟨go_end (z := (σ.1 89 29) - (σ.1 (94) (b.toNat))) (spdF_i (by omega)) ((((((FrM.rf hR).sw 29 (by omega) ⟨by omega, by omega⟩).sw 28 (by omega) ⟨by omega, by omega⟩).sw 30 (by omega) ⟨by omega, by omega⟩).sw 31 (by omega) ⟨by decide, by decide⟩).sw 29 (by omega) ⟨by omega, by omega⟩) (Eq.trans (rd_k (by decide)) (Eq.trans (rd_k (by decide)) (Eq.trans (rd_k (by decide)) rd_s))) (Eq.trans (rd_k (by decide)) (Eq.trans (rd_k (by decide)) rd_s)) (Or.inr ⟨by omega, by rw [if_pos (by omega)]; exact rd_s, (Eq.trans (rd_k (by decide)) rd_s)⟩), (Eq.trans (rd_k (by decide)) (Eq.trans (rd_k (by decide)) (Eq.trans (rd_k (by decide)) (Eq.trans (rd_k (by decide)) (rd_k (by decide))))))⟩) dX7_goes_175 (by decide) (by decide)
        · skip
          refine V_iconst X dX7_goes_127 ?_
          refine V_goto X 132 dX7_goes_128 (by decide) ?_
          refine V_put X (ci := 7) (89) (by decide) (rfl) (by decide) rfl (fun _ h => List.mem_cons_of_mem _ (List.mem_append_right _ h)) 31 (by decide) (List.mem_of_getElem? (i := 6) rfl) rfl tyX7 tyX7_ok nmX7 rfl rfl (iN_bool (Or.inr rfl)).1 (iN_bool (Or.inr rfl)).2 rfl (Nat.le_of_ble_eq_true rfl) dX7_goes_132 ?_
          refine V_aload_n X 0 rfl dX7_goes_135 rfl ?_
          refine V_get X (ci := 7) (89) (by decide) (rfl) (by decide) rfl (fun _ h => List.mem_cons_of_mem _ (List.mem_append_right _ h)) 31 (by decide) (List.mem_of_getElem? (i := 6) rfl) rfl rfl dX7_goes_136 ?_
          refine V_top (b := 1) rd_s ?_
          refine V_if_ne X 175 ⟨by decide, by decide⟩ dX7_goes_139 (by decide) (fun _ => ?_) (fun h => absurd h (by first | decide | omega))
          exact V_vret X hr (by exact ⟨go_end (z := (σ.1 89 29) - (σ.1 (94) (b.toNat))) (spdF_i (by omega)) (((((FrM.rf hR).sw 29 (by omega) ⟨by omega, by omega⟩).sw 28 (by omega) ⟨by omega, by omega⟩).sw 30 (by omega) ⟨by omega, by omega⟩).sw 31 (by omega) ⟨by decide, by decide⟩) (Eq.trans (rd_k (by decide)) (Eq.trans (rd_k (by decide)) rd_s)) (Eq.trans (rd_k (by decide)) rd_s) (Or.inl ⟨by omega, (Eq.trans (rd_k (by decide)) (Eq.trans (rd_k (by decide)) (Eq.trans (rd_k (by decide)) rd_s))), rd_s⟩), (Eq.trans (rd_k (by decide)) (Eq.trans (rd_k (by decide)) (Eq.trans (rd_k (by decide)) (rd_k (by decide)))))⟩) dX7_goes_175 (by decide) (by decide)
      · skip
        refine V_iconst X dX7_goes_73 ?_
        refine V_goto X 88 dX7_goes_74 (by decide) ?_
        refine V_put X (ci := 7) (89) (by decide) (rfl) (by decide) rfl (fun _ h => List.mem_cons_of_mem _ (List.mem_append_right _ h)) 29 (by decide) (List.mem_of_getElem? (i := 1) rfl) rfl tyX7 tyX7_ok nmX7 rfl rfl rfl rfl rfl (Nat.le_of_ble_eq_true rfl) dX7_goes_88 ?_
        refine V_aload_n X 0 rfl dX7_goes_91 rfl ?_
        refine V_dup X rfl dX7_goes_92 ?_
        refine V_get X (ci := 7) (89) (by decide) (rfl) (by decide) rfl (fun _ h => List.mem_cons_of_mem _ (List.mem_append_right _ h)) 28 (by decide) (List.mem_of_getElem? (i := 4) rfl) rfl rfl dX7_goes_93 ?_
        refine V_top (b := σ.1 89 28) (rd_k (by decide)) ?_
        refine V_aload_n X 0 rfl dX7_goes_96 rfl ?_
        refine V_get X (ci := 7) (89) (by decide) (rfl) (by decide) rfl (fun _ h => List.mem_cons_of_mem _ (List.mem_append_right _ h)) 29 (by decide) (List.mem_of_getElem? (i := 1) rfl) rfl rfl dX7_goes_97 ?_
        refine V_top (b := 0) rd_s ?_
        refine V_iadd X dX7_goes_100 ?_
        refine V_put X (ci := 7) (89) (by decide) (rfl) (by decide) rfl (fun _ h => List.mem_cons_of_mem _ (List.mem_append_right _ h)) 28 (by decide) (List.mem_of_getElem? (i := 4) rfl) rfl tyX7 tyX7_ok nmX7 rfl rfl rfl rfl rfl (Nat.le_of_ble_eq_true rfl) dX7_goes_101 ?_
        refine V_aload_n X 0 rfl dX7_goes_104 rfl ?_
        refine V_dup X rfl dX7_goes_105 ?_
        refine V_get X (ci := 7) (89) (by decide) (rfl) (by decide) rfl (fun _ h => List.mem_cons_of_mem _ (List.mem_append_right _ h)) 30 (by decide) (List.mem_of_getElem? (i := 5) rfl) rfl rfl dX7_goes_106 ?_
        refine V_top (b := σ.1 89 30) (Eq.trans (rd_k (by decide)) (rd_k (by decide))) ?_
        refine V_iconst X dX7_goes_109 ?_
        refine V_iadd X dX7_goes_110 ?_
        refine V_put X (ci := 7) (89) (by decide) (rfl) (by decide) rfl (fun _ h => List.mem_cons_of_mem _ (List.mem_append_right _ h)) 30 (by decide) (List.mem_of_getElem? (i := 5) rfl) rfl tyX7 tyX7_ok nmX7 rfl rfl rfl rfl rfl (Nat.le_of_ble_eq_true rfl) dX7_goes_111 ?_
        refine V_aload_n X 0 rfl dX7_goes_114 rfl ?_
        refine V_aload_n X 0 rfl dX7_goes_115 rfl ?_
        refine V_get X (ci := 7) (89) (by decide) (rfl) (by decide) rfl (fun _ h => List.mem_cons_of_mem _ (List.mem_append_right _ h)) 28 (by decide) (List.mem_of_getElem? (i := 4) rfl) rfl rfl dX7_goes_116 ?_
        refine V_top (b := (σ.1 89 28) + 0) (Eq.trans (rd_k (by decide)) rd_s) ?_
        refine V_aload_n X 0 rfl dX7_goes_119 rfl ?_
        refine V_iload_n X 1 rfl dX7_goes_120 rfl ?_
        refine V_callV_I X (na := 1) (ci := 7) (b0 := 89) (by decide) (rfl) (by decide) rfl (m_X7_lengthNow g l hl9 (sw (sw (sw σ (89) (29) (0)) (89) (28) ((σ.1 89 28) + 0)) (89) (30) ((σ.1 89 30) + 1)) ((((hR).sw _ _ ⟨by decide, by decide⟩).sw _ _ ⟨by omega, by omega⟩).sw _ _ ⟨by omega, by omega⟩) (TM.code (TM.code (TM.code hTM))) a ha) gX7_goes_X7_lengthNow rfl rfl rfl (by decide +kernel) ⟨Nat.le_of_ble_eq_true rfl, Nat.le_of_ble_eq_true rfl⟩ rfl rfl (Nat.le_of_ble_eq_true rfl) ⟨Nat.le_of_ble_eq_true rfl, Nat.le_of_ble_eq_true rfl⟩ dX7_goes_121 (fun z24 u25 z24r hp26 => ?_)
        obtain ⟨hz, hu27⟩ := hp26
        have hu27 := hu27.symm
        subst hu27
        have hz2 : z24 = lenM σ a.toNat := hz
        subst hz2
        refine V_icmp_lt X 131 ⟨by omega, by omega⟩ ⟨by omega, by omega⟩ dX7_goes_124 (by decide) (fun q28 => ?_) (fun q28 => ?_)
        · skip
          refine V_iconst X dX7_goes_131 ?_
          refine V_put X (ci := 7) (89) (by decide) (rfl) (by decide) rfl (fun _ h => List.mem_cons_of_mem _ (List.mem_append_right _ h)) 31 (by decide) (List.mem_of_getElem? (i := 6) rfl) rfl tyX7 tyX7_ok nmX7 rfl rfl (iN_bool (Or.inl rfl)).1 (iN_bool (Or.inl rfl)).2 rfl (Nat.le_of_ble_eq_true rfl) dX7_goes_132 ?_
          refine V_aload_n X 0 rfl dX7_goes_135 rfl ?_
          refine V_get X (ci := 7) (89) (by decide) (rfl) (by decide) rfl (fun _ h => List.mem_cons_of_mem _ (List.mem_append_right _ h)) 31 (by decide) (List.mem_of_getElem? (i := 6) rfl) rfl rfl dX7_goes_136 ?_
          refine V_top (b := 0) rd_s ?_
          refine V_if_ne X 175 ⟨by decide, by decide⟩ dX7_goes_139 (by decide) (fun h => absurd h (by first | decide | omega)) (fun _ => ?_)
          refine V_aload_n X 0 rfl dX7_goes_142 rfl ?_
          refine V_get X (ci := 7) (89) (by decide) (rfl) (by decide) rfl (fun _ h => List.mem_cons_of_mem _ (List.mem_append_right _ h)) 29 (by decide) (List.mem_of_getElem? (i := 1) rfl) rfl rfl dX7_goes_143 ?_
          refine V_top (b := 0) (Eq.trans (rd_k (by decide)) (Eq.trans (rd_k (by decide)) (Eq.trans (rd_k (by decide)) rd_s))) ?_
          refine V_aload_n X 0 rfl dX7_goes_146 rfl ?_
          refine V_iload_n X 1 rfl dX7_goes_147 rfl ?_
          refine V_aload_n X 0 rfl dX7_goes_148 rfl ?_
          refine V_get X (ci := 7) (89) (by decide) (rfl) (by decide) rfl (fun _ h => List.mem_cons_of_mem _ (List.mem_append_right _ h)) 28 (by decide) (List.mem_of_getElem? (i := 4) rfl) rfl rfl dX7_goes_149 ?_
          refine V_top (b := (σ.1 89 28) + 0) (Eq.trans (rd_k (by decide)) (Eq.trans (rd_k (by decide)) rd_s)) ?_
          refine V_callV_I X (na := 2) (ci := 7) (b0 := 89) (by decide) (rfl) (by decide) rfl (m_X7_limitNow g l hl9 (sw (sw (sw (sw σ (89) (29) (0)) (89) (28) ((σ.1 89 28) + 0)) (89) (30) ((σ.1 89 30) + 1)) (89) (31) (0)) (((((hR).sw _ _ ⟨by decide, by decide⟩).sw _ _ ⟨by omega, by omega⟩).sw _ _ ⟨by omega, by omega⟩).sw _ _ ⟨by decide, by decide⟩) (TM.code (TM.code (TM.code (TM.code hTM)))) a ((σ.1 89 28) + 0) ha (by omega) (by show (σ.1 89 28) + 0 < lenM σ a.toNat; omega)) gX7_goes_X7_limitNow rfl rfl rfl (by decide +kernel) ⟨Nat.le_of_ble_eq_true rfl, Nat.le_of_ble_eq_true rfl⟩ rfl rfl (Nat.le_of_ble_eq_true rfl) ⟨Nat.le_of_ble_eq_true rfl, Nat.le_of_ble_eq_true rfl⟩ dX7_goes_152 (fun z29 u30 z29r hp31 => ?_)
          obtain ⟨hzl, hu32⟩ := hp31
          have hu32 := hu32.symm
          subst hu32
          have hz3 : z29 = limM σ a.toNat ((σ.1 89 28) + 0) := hzl
          have hlb := limM_b hTM (t := a.toNat) (p := (σ.1 89 28) + 0) (by omega)
          rw [← hz3] at hlb
          refine V_aload_n X 0 rfl dX7_goes_155 rfl ?_
          refine V_get X (ci := 7) (89) (by decide) (rfl) (by decide) rfl (fun _ h => List.mem_cons_of_mem _ (List.mem_append_right _ h)) 8 (by decide) (List.mem_of_getElem? (i := 7) rfl) rfl rfl dX7_goes_156 ?_
          refine V_iload_n X 2 rfl dX7_goes_159 rfl ?_
          refine V_iald X (N := 4) (95) (by decide) (rfl) (rfl) (by decide) (b.toNat) (by omega) (by omega) dX7_goes_160 ?_
          refine V_top (b := σ.1 (95) (b.toNat)) (Eq.trans (rd_n (by decide)) (Eq.trans (rd_n (by decide)) (Eq.trans (rd_n (by decide)) (rd_n (by decide))))) ?_
          refine V_iadd X dX7_goes_161 ?_
          refine V_icmp_le X 175 ⟨by decide, by decide⟩ ⟨by omega, by omega⟩ dX7_goes_162 (by decide) (fun q33 => ?_) (fun q33 => ?_)
          · skip
            exact V_vret X hr (by exact ⟨go_end (z := 0) (spdF_i (by omega)) (((((FrM.rf hR).sw 29 (by omega) ⟨by decide, by decide⟩).sw 28 (by omega) ⟨by omega, by omega⟩).sw 30 (by omega) ⟨by omega, by omega⟩).sw 31 (by omega) ⟨by decide, by decide⟩) (Eq.trans (rd_k (by decide)) (Eq.trans (rd_k (by decide)) rd_s)) (Eq.trans (rd_k (by decide)) rd_s) (Or.inr ⟨by omega, by rw [if_neg (by omega)]; exact (Eq.trans (rd_k (by decide)) (Eq.trans (rd_k (by decide)) (Eq.trans (rd_k (by decide)) rd_s))), rd_s⟩), (Eq.trans (rd_k (by decide)) (Eq.trans (rd_k (by decide)) (Eq.trans (rd_k (by decide)) (rd_k (by decide)))))⟩) dX7_goes_175 (by decide) (by decide)
          · skip
            refine V_aload_n X 0 rfl dX7_goes_165 rfl ?_
            refine V_aload_n X 0 rfl dX7_goes_166 rfl ?_
            refine V_get X (ci := 7) (89) (by decide) (rfl) (by decide) rfl (fun _ h => List.mem_cons_of_mem _ (List.mem_append_right _ h)) 29 (by decide) (List.mem_of_getElem? (i := 1) rfl) rfl rfl dX7_goes_167 ?_
            refine V_top (b := 0) (Eq.trans (rd_k (by decide)) (Eq.trans (rd_k (by decide)) (Eq.trans (rd_k (by decide)) rd_s))) ?_
            refine V_iconst X dX7_goes_170 ?_
            refine V_idiv X (by omega) (by omega) (by omega) (by omega) dX7_goes_171 ?_
            refine V_put X (ci := 7) (89) (by decide) (rfl) (by decide) rfl (fun _ h => List.mem_cons_of_mem _ (List.mem_append_right _ h)) 29 (by decide) (List.mem_of_getElem? (i := 1) rfl) rfl tyX7 tyX7_ok nmX7 rfl rfl rfl rfl rfl (Nat.le_of_ble_eq_true rfl) dX7_goes_172 ?_
            exact V_vret X hr (by exact ⟨go_end (z := 0) (spdF_i (by omega)) ((((((FrM.rf hR).sw 29 (by omega) ⟨by decide, by decide⟩).sw 28 (by omega) ⟨by omega, by omega⟩).sw 30 (by omega) ⟨by omega, by omega⟩).sw 31 (by omega) ⟨by decide, by decide⟩).sw 29 (by omega) ⟨by omega, by omega⟩) (Eq.trans (rd_k (by decide)) (Eq.trans (rd_k (by decide)) (Eq.trans (rd_k (by decide)) rd_s))) (Eq.trans (rd_k (by decide)) (Eq.trans (rd_k (by decide)) rd_s)) (Or.inr ⟨by omega, by rw [if_pos (by omega)]; exact rd_s, (Eq.trans (rd_k (by decide)) rd_s)⟩), (Eq.trans (rd_k (by decide)) (Eq.trans (rd_k (by decide)) (Eq.trans (rd_k (by decide)) (Eq.trans (rd_k (by decide)) (rd_k (by decide))))))⟩) dX7_goes_175 (by decide) (by decide)
        · skip
          refine V_iconst X dX7_goes_127 ?_
          refine V_goto X 132 dX7_goes_128 (by decide) ?_
          refine V_put X (ci := 7) (89) (by decide) (rfl) (by decide) rfl (fun _ h => List.mem_cons_of_mem _ (List.mem_append_right _ h)) 31 (by decide) (List.mem_of_getElem? (i := 6) rfl) rfl tyX7 tyX7_ok nmX7 rfl rfl (iN_bool (Or.inr rfl)).1 (iN_bool (Or.inr rfl)).2 rfl (Nat.le_of_ble_eq_true rfl) dX7_goes_132 ?_
          refine V_aload_n X 0 rfl dX7_goes_135 rfl ?_
          refine V_get X (ci := 7) (89) (by decide) (rfl) (by decide) rfl (fun _ h => List.mem_cons_of_mem _ (List.mem_append_right _ h)) 31 (by decide) (List.mem_of_getElem? (i := 6) rfl) rfl rfl dX7_goes_136 ?_
          refine V_top (b := 1) rd_s ?_
          refine V_if_ne X 175 ⟨by decide, by decide⟩ dX7_goes_139 (by decide) (fun _ => ?_) (fun h => absurd h (by first | decide | omega))
          exact V_vret X hr (by exact ⟨go_end (z := 0) (spdF_i (by omega)) (((((FrM.rf hR).sw 29 (by omega) ⟨by decide, by decide⟩).sw 28 (by omega) ⟨by omega, by omega⟩).sw 30 (by omega) ⟨by omega, by omega⟩).sw 31 (by omega) ⟨by decide, by decide⟩) (Eq.trans (rd_k (by decide)) (Eq.trans (rd_k (by decide)) rd_s)) (Eq.trans (rd_k (by decide)) rd_s) (Or.inl ⟨by omega, (Eq.trans (rd_k (by decide)) (Eq.trans (rd_k (by decide)) (Eq.trans (rd_k (by decide)) rd_s))), rd_s⟩), (Eq.trans (rd_k (by decide)) (Eq.trans (rd_k (by decide)) (Eq.trans (rd_k (by decide)) (rd_k (by decide)))))⟩) dX7_goes_175 (by decide) (by decide)
  · skip
    refine V_aload_n X 0 rfl dX7_goes_6 rfl ?_
    refine V_aload_n X 0 rfl dX7_goes_7 rfl ?_
    refine V_get X (ci := 7) (89) (by decide) (rfl) (by decide) rfl (fun _ h => List.mem_cons_of_mem _ (List.mem_append_right _ h)) 29 (by decide) (List.mem_of_getElem? (i := 1) rfl) rfl rfl dX7_goes_8 ?_
    refine V_aload_n X 0 rfl dX7_goes_11 rfl ?_
    refine V_get X (ci := 7) (89) (by decide) (rfl) (by decide) rfl (fun _ h => List.mem_cons_of_mem _ (List.mem_append_right _ h)) 7 (by decide) (List.mem_of_getElem? (i := 2) rfl) rfl rfl dX7_goes_12 ?_
    refine V_iload_n X 2 rfl dX7_goes_15 rfl ?_
    refine V_iald X (N := 4) (94) (by decide) (rfl) (rfl) (by decide) (b.toNat) (by omega) (by omega) dX7_goes_16 ?_
    refine V_iadd X dX7_goes_17 ?_
    refine V_aload_n X 0 rfl dX7_goes_18 rfl ?_
    refine V_get X (ci := 7) (89) (by decide) (rfl) (by decide) rfl (fun _ h => List.mem_cons_of_mem _ (List.mem_append_right _ h)) 6 (by decide) (List.mem_of_getElem? (i := 3) rfl) rfl rfl dX7_goes_19 ?_
    refine V_iload_n X 2 rfl dX7_goes_22 rfl ?_
    refine V_iald X (N := 4) (93) (by decide) (rfl) (rfl) (by decide) (b.toNat) (by omega) (by omega) dX7_goes_23 ?_
    refine V_icmp_le X 36 ⟨by omega, by omega⟩ (hR _ _) dX7_goes_24 (by decide) (fun q34 => ?_) (fun q34 => ?_)
    · skip
      refine V_aload_n X 0 rfl dX7_goes_36 rfl ?_
      refine V_get X (ci := 7) (89) (by decide) (rfl) (by decide) rfl (fun _ h => List.mem_cons_of_mem _ (List.mem_append_right _ h)) 29 (by decide) (List.mem_of_getElem? (i := 1) rfl) rfl rfl dX7_goes_37 ?_
      refine V_aload_n X 0 rfl dX7_goes_40 rfl ?_
      refine V_get X (ci := 7) (89) (by decide) (rfl) (by decide) rfl (fun _ h => List.mem_cons_of_mem _ (List.mem_append_right _ h)) 7 (by decide) (List.mem_of_getElem? (i := 2) rfl) rfl rfl dX7_goes_41 ?_
      refine V_iload_n X 2 rfl dX7_goes_44 rfl ?_
      refine V_iald X (N := 4) (94) (by decide) (rfl) (rfl) (by decide) (b.toNat) (by omega) (by omega) dX7_goes_45 ?_
      refine V_iadd X dX7_goes_46 ?_
      refine V_put X (ci := 7) (89) (by decide) (rfl) (by decide) rfl (fun _ h => List.mem_cons_of_mem _ (List.mem_append_right _ h)) 29 (by decide) (List.mem_of_getElem? (i := 1) rfl) rfl tyX7 tyX7_ok nmX7 rfl rfl rfl rfl rfl (Nat.le_of_ble_eq_true rfl) dX7_goes_47 ?_
      refine V_goto X 91 dX7_goes_50 (by decide) ?_
      refine V_aload_n X 0 rfl dX7_goes_91 rfl ?_
      refine V_dup X rfl dX7_goes_92 ?_
      refine V_get X (ci := 7) (89) (by decide) (rfl) (by decide) rfl (fun _ h => List.mem_cons_of_mem _ (List.mem_append_right _ h)) 28 (by decide) (List.mem_of_getElem? (i := 4) rfl) rfl rfl dX7_goes_93 ?_
      refine V_top (b := σ.1 89 28) (rd_k (by decide)) ?_
      refine V_aload_n X 0 rfl dX7_goes_96 rfl ?_
      refine V_get X (ci := 7) (89) (by decide) (rfl) (by decide) rfl (fun _ h => List.mem_cons_of_mem _ (List.mem_append_right _ h)) 29 (by decide) (List.mem_of_getElem? (i := 1) rfl) rfl rfl dX7_goes_97 ?_
      refine V_top (b := (σ.1 89 29) + (σ.1 (94) (b.toNat))) rd_s ?_
      refine V_iadd X dX7_goes_100 ?_
      refine V_put X (ci := 7) (89) (by decide) (rfl) (by decide) rfl (fun _ h => List.mem_cons_of_mem _ (List.mem_append_right _ h)) 28 (by decide) (List.mem_of_getElem? (i := 4) rfl) rfl tyX7 tyX7_ok nmX7 rfl rfl rfl rfl rfl (Nat.le_of_ble_eq_true rfl) dX7_goes_101 ?_
      refine V_aload_n X 0 rfl dX7_goes_104 rfl ?_
      refine V_dup X rfl dX7_goes_105 ?_
      refine V_get X (ci := 7) (89) (by decide) (rfl) (by decide) rfl (fun _ h => List.mem_cons_of_mem _ (List.mem_append_right _ h)) 30 (by decide) (List.mem_of_getElem? (i := 5) rfl) rfl rfl dX7_goes_106 ?_
      refine V_top (b := σ.1 89 30) (Eq.trans (rd_k (by decide)) (rd_k (by decide))) ?_
      refine V_iconst X dX7_goes_109 ?_
      refine V_iadd X dX7_goes_110 ?_
      refine V_put X (ci := 7) (89) (by decide) (rfl) (by decide) rfl (fun _ h => List.mem_cons_of_mem _ (List.mem_append_right _ h)) 30 (by decide) (List.mem_of_getElem? (i := 5) rfl) rfl tyX7 tyX7_ok nmX7 rfl rfl rfl rfl rfl (Nat.le_of_ble_eq_true rfl) dX7_goes_111 ?_
      refine V_aload_n X 0 rfl dX7_goes_114 rfl ?_
      refine V_aload_n X 0 rfl dX7_goes_115 rfl ?_
      refine V_get X (ci := 7) (89) (by decide) (rfl) (by decide) rfl (fun _ h => List.mem_cons_of_mem _ (List.mem_append_right _ h)) 28 (by decide) (List.mem_of_getElem? (i := 4) rfl) rfl rfl dX7_goes_116 ?_
      refine V_top (b := (σ.1 89 28) + ((σ.1 89 29) + (σ.1 (94) (b.toNat)))) (Eq.trans (rd_k (by decide)) rd_s) ?_
      refine V_aload_n X 0 rfl dX7_goes_119 rfl ?_
      refine V_iload_n X 1 rfl dX7_goes_120 rfl ?_
      refine V_callV_I X (na := 1) (ci := 7) (b0 := 89) (by decide) (rfl) (by decide) rfl (m_X7_lengthNow g l hl9 (sw (sw (sw σ (89) (29) ((σ.1 89 29) + (σ.1 (94) (b.toNat)))) (89) (28) ((σ.1 89 28) + ((σ.1 89 29) + (σ.1 (94) (b.toNat))))) (89) (30) ((σ.1 89 30) + 1)) ((((hR).sw _ _ ⟨by omega, by omega⟩).sw _ _ ⟨by omega, by omega⟩).sw _ _ ⟨by omega, by omega⟩) (TM.code (TM.code (TM.code hTM))) a ha) gX7_goes_X7_lengthNow rfl rfl rfl (by decide +kernel) ⟨Nat.le_of_ble_eq_true rfl, Nat.le_of_ble_eq_true rfl⟩ rfl rfl (Nat.le_of_ble_eq_true rfl) ⟨Nat.le_of_ble_eq_true rfl, Nat.le_of_ble_eq_true rfl⟩ dX7_goes_121 (fun z35 u36 z35r hp37 => ?_)
      obtain ⟨hz, hu38⟩ := hp37
      have hu38 := hu38.symm
      subst hu38
      have hz2 : z35 = lenM σ a.toNat := hz
      subst hz2
      refine V_icmp_lt X 131 ⟨by omega, by omega⟩ ⟨by omega, by omega⟩ dX7_goes_124 (by decide) (fun q39 => ?_) (fun q39 => ?_)
      · skip
        refine V_iconst X dX7_goes_131 ?_
        refine V_put X (ci := 7) (89) (by decide) (rfl) (by decide) rfl (fun _ h => List.mem_cons_of_mem _ (List.mem_append_right _ h)) 31 (by decide) (List.mem_of_getElem? (i := 6) rfl) rfl tyX7 tyX7_ok nmX7 rfl rfl (iN_bool (Or.inl rfl)).1 (iN_bool (Or.inl rfl)).2 rfl (Nat.le_of_ble_eq_true rfl) dX7_goes_132 ?_
        refine V_aload_n X 0 rfl dX7_goes_135 rfl ?_
        refine V_get X (ci := 7) (89) (by decide) (rfl) (by decide) rfl (fun _ h => List.mem_cons_of_mem _ (List.mem_append_right _ h)) 31 (by decide) (List.mem_of_getElem? (i := 6) rfl) rfl rfl dX7_goes_136 ?_
        refine V_top (b := 0) rd_s ?_
        refine V_if_ne X 175 ⟨by decide, by decide⟩ dX7_goes_139 (by decide) (fun h => absurd h (by first | decide | omega)) (fun _ => ?_)
        refine V_aload_n X 0 rfl dX7_goes_142 rfl ?_
        refine V_get X (ci := 7) (89) (by decide) (rfl) (by decide) rfl (fun _ h => List.mem_cons_of_mem _ (List.mem_append_right _ h)) 29 (by decide) (List.mem_of_getElem? (i := 1) rfl) rfl rfl dX7_goes_143 ?_
        refine V_top (b := (σ.1 89 29) + (σ.1 (94) (b.toNat))) (Eq.trans (rd_k (by decide)) (Eq.trans (rd_k (by decide)) (Eq.trans (rd_k (by decide)) rd_s))) ?_
        refine V_aload_n X 0 rfl dX7_goes_146 rfl ?_
        refine V_iload_n X 1 rfl dX7_goes_147 rfl ?_
        refine V_aload_n X 0 rfl dX7_goes_148 rfl ?_
        refine V_get X (ci := 7) (89) (by decide) (rfl) (by decide) rfl (fun _ h => List.mem_cons_of_mem _ (List.mem_append_right _ h)) 28 (by decide) (List.mem_of_getElem? (i := 4) rfl) rfl rfl dX7_goes_149 ?_
        refine V_top (b := (σ.1 89 28) + ((σ.1 89 29) + (σ.1 (94) (b.toNat)))) (Eq.trans (rd_k (by decide)) (Eq.trans (rd_k (by decide)) rd_s)) ?_
        refine V_callV_I X (na := 2) (ci := 7) (b0 := 89) (by decide) (rfl) (by decide) rfl (m_X7_limitNow g l hl9 (sw (sw (sw (sw σ (89) (29) ((σ.1 89 29) + (σ.1 (94) (b.toNat)))) (89) (28) ((σ.1 89 28) + ((σ.1 89 29) + (σ.1 (94) (b.toNat))))) (89) (30) ((σ.1 89 30) + 1)) (89) (31) (0)) (((((hR).sw _ _ ⟨by omega, by omega⟩).sw _ _ ⟨by omega, by omega⟩).sw _ _ ⟨by omega, by omega⟩).sw _ _ ⟨by decide, by decide⟩) (TM.code (TM.code (TM.code (TM.code hTM)))) a ((σ.1 89 28) + ((σ.1 89 29) + (σ.1 (94) (b.toNat)))) ha (by omega) (by show (σ.1 89 28) + ((σ.1 89 29) + (σ.1 (94) (b.toNat))) < lenM σ a.toNat; omega)) gX7_goes_X7_limitNow rfl rfl rfl (by decide +kernel) ⟨Nat.le_of_ble_eq_true rfl, Nat.le_of_ble_eq_true rfl⟩ rfl rfl (Nat.le_of_ble_eq_true rfl) ⟨Nat.le_of_ble_eq_true rfl, Nat.le_of_ble_eq_true rfl⟩ dX7_goes_152 (fun z40 u41 z40r hp42 => ?_)
        obtain ⟨hzl, hu43⟩ := hp42
        have hu43 := hu43.symm
        subst hu43
        have hz3 : z40 = limM σ a.toNat ((σ.1 89 28) + ((σ.1 89 29) + (σ.1 (94) (b.toNat)))) := hzl
        have hlb := limM_b hTM (t := a.toNat) (p := (σ.1 89 28) + ((σ.1 89 29) + (σ.1 (94) (b.toNat)))) (by omega)
        rw [← hz3] at hlb
        refine V_aload_n X 0 rfl dX7_goes_155 rfl ?_
        refine V_get X (ci := 7) (89) (by decide) (rfl) (by decide) rfl (fun _ h => List.mem_cons_of_mem _ (List.mem_append_right _ h)) 8 (by decide) (List.mem_of_getElem? (i := 7) rfl) rfl rfl dX7_goes_156 ?_
        refine V_iload_n X 2 rfl dX7_goes_159 rfl ?_
        refine V_iald X (N := 4) (95) (by decide) (rfl) (rfl) (by decide) (b.toNat) (by omega) (by omega) dX7_goes_160 ?_
        refine V_top (b := σ.1 (95) (b.toNat)) (Eq.trans (rd_n (by decide)) (Eq.trans (rd_n (by decide)) (Eq.trans (rd_n (by decide)) (rd_n (by decide))))) ?_
        refine V_iadd X dX7_goes_161 ?_
        refine V_icmp_le X 175 ⟨by omega, by omega⟩ ⟨by omega, by omega⟩ dX7_goes_162 (by decide) (fun q44 => ?_) (fun q44 => ?_)
        · skip
          exact V_vret X hr (by exact ⟨go_end (z := (σ.1 89 29) + (σ.1 (94) (b.toNat))) (spdF_i (by omega)) (((((FrM.rf hR).sw 29 (by omega) ⟨by omega, by omega⟩).sw 28 (by omega) ⟨by omega, by omega⟩).sw 30 (by omega) ⟨by omega, by omega⟩).sw 31 (by omega) ⟨by decide, by decide⟩) (Eq.trans (rd_k (by decide)) (Eq.trans (rd_k (by decide)) rd_s)) (Eq.trans (rd_k (by decide)) rd_s) (Or.inr ⟨by omega, by rw [if_neg (by omega)]; exact (Eq.trans (rd_k (by decide)) (Eq.trans (rd_k (by decide)) (Eq.trans (rd_k (by decide)) rd_s))), rd_s⟩), (Eq.trans (rd_k (by decide)) (Eq.trans (rd_k (by decide)) (Eq.trans (rd_k (by decide)) (rd_k (by decide)))))⟩) dX7_goes_175 (by decide) (by decide)
        · skip
          refine V_aload_n X 0 rfl dX7_goes_165 rfl ?_
          refine V_aload_n X 0 rfl dX7_goes_166 rfl ?_
          refine V_get X (ci := 7) (89) (by decide) (rfl) (by decide) rfl (fun _ h => List.mem_cons_of_mem _ (List.mem_append_right _ h)) 29 (by decide) (List.mem_of_getElem? (i := 1) rfl) rfl rfl dX7_goes_167 ?_
          refine V_top (b := (σ.1 89 29) + (σ.1 (94) (b.toNat))) (Eq.trans (rd_k (by decide)) (Eq.trans (rd_k (by decide)) (Eq.trans (rd_k (by decide)) rd_s))) ?_
          refine V_iconst X dX7_goes_170 ?_
          refine V_idiv X (by omega) (by omega) (by omega) (by omega) dX7_goes_171 ?_
          refine V_put X (ci := 7) (89) (by decide) (rfl) (by decide) rfl (fun _ h => List.mem_cons_of_mem _ (List.mem_append_right _ h)) 29 (by decide) (List.mem_of_getElem? (i := 1) rfl) rfl tyX7 tyX7_ok nmX7 rfl rfl rfl rfl rfl (Nat.le_of_ble_eq_true rfl) dX7_goes_172 ?_
          exact V_vret X hr (by exact ⟨go_end (z := (σ.1 89 29) + (σ.1 (94) (b.toNat))) (spdF_i (by omega)) ((((((FrM.rf hR).sw 29 (by omega) ⟨by omega, by omega⟩).sw 28 (by omega) ⟨by omega, by omega⟩).sw 30 (by omega) ⟨by omega, by omega⟩).sw 31 (by omega) ⟨by decide, by decide⟩).sw 29 (by omega) ⟨by omega, by omega⟩) (Eq.trans (rd_k (by decide)) (Eq.trans (rd_k (by decide)) (Eq.trans (rd_k (by decide)) rd_s))) (Eq.trans (rd_k (by decide)) (Eq.trans (rd_k (by decide)) rd_s)) (Or.inr ⟨by omega, by rw [if_pos (by omega)]; exact rd_s, (Eq.trans (rd_k (by decide)) rd_s)⟩), (Eq.trans (rd_k (by decide)) (Eq.trans (rd_k (by decide)) (Eq.trans (rd_k (by decide)) (Eq.trans (rd_k (by decide)) (rd_k (by decide))))))⟩) dX7_goes_175 (by decide) (by decide)
      · skip
        refine V_iconst X dX7_goes_127 ?_
        refine V_goto X 132 dX7_goes_128 (by decide) ?_
        refine V_put X (ci := 7) (89) (by decide) (rfl) (by decide) rfl (fun _ h => List.mem_cons_of_mem _ (List.mem_append_right _ h)) 31 (by decide) (List.mem_of_getElem? (i := 6) rfl) rfl tyX7 tyX7_ok nmX7 rfl rfl (iN_bool (Or.inr rfl)).1 (iN_bool (Or.inr rfl)).2 rfl (Nat.le_of_ble_eq_true rfl) dX7_goes_132 ?_
        refine V_aload_n X 0 rfl dX7_goes_135 rfl ?_
        refine V_get X (ci := 7) (89) (by decide) (rfl) (by decide) rfl (fun _ h => List.mem_cons_of_mem _ (List.mem_append_right _ h)) 31 (by decide) (List.mem_of_getElem? (i := 6) rfl) rfl rfl dX7_goes_136 ?_
        refine V_top (b := 1) rd_s ?_
        refine V_if_ne X 175 ⟨by decide, by decide⟩ dX7_goes_139 (by decide) (fun _ => ?_) (fun h => absurd h (by first | decide | omega))
        exact V_vret X hr (by exact ⟨go_end (z := (σ.1 89 29) + (σ.1 (94) (b.toNat))) (spdF_i (by omega)) (((((FrM.rf hR).sw 29 (by omega) ⟨by omega, by omega⟩).sw 28 (by omega) ⟨by omega, by omega⟩).sw 30 (by omega) ⟨by omega, by omega⟩).sw 31 (by omega) ⟨by decide, by decide⟩) (Eq.trans (rd_k (by decide)) (Eq.trans (rd_k (by decide)) rd_s)) (Eq.trans (rd_k (by decide)) rd_s) (Or.inl ⟨by omega, (Eq.trans (rd_k (by decide)) (Eq.trans (rd_k (by decide)) (Eq.trans (rd_k (by decide)) rd_s))), rd_s⟩), (Eq.trans (rd_k (by decide)) (Eq.trans (rd_k (by decide)) (Eq.trans (rd_k (by decide)) (rd_k (by decide)))))⟩) dX7_goes_175 (by decide) (by decide)
    · skip
      refine V_aload_n X 0 rfl dX7_goes_27 rfl ?_
      refine V_get X (ci := 7) (89) (by decide) (rfl) (by decide) rfl (fun _ h => List.mem_cons_of_mem _ (List.mem_append_right _ h)) 6 (by decide) (List.mem_of_getElem? (i := 3) rfl) rfl rfl dX7_goes_28 ?_
      refine V_iload_n X 2 rfl dX7_goes_31 rfl ?_
      refine V_iald X (N := 4) (93) (by decide) (rfl) (rfl) (by decide) (b.toNat) (by omega) (by omega) dX7_goes_32 ?_
      refine V_goto X 47 dX7_goes_33 (by decide) ?_
      refine V_put X (ci := 7) (89) (by decide) (rfl) (by decide) rfl (fun _ h => List.mem_cons_of_mem _ (List.mem_append_right _ h)) 29 (by decide) (List.mem_of_getElem? (i := 1) rfl) rfl tyX7 tyX7_ok nmX7 rfl rfl rfl rfl rfl (Nat.le_of_ble_eq_true rfl) dX7_goes_47 ?_
      refine V_goto X 91 dX7_goes_50 (by decide) ?_
      refine V_aload_n X 0 rfl dX7_goes_91 rfl ?_
      refine V_dup X rfl dX7_goes_92 ?_
      refine V_get X (ci := 7) (89) (by decide) (rfl) (by decide) rfl (fun _ h => List.mem_cons_of_mem _ (List.mem_append_right _ h)) 28 (by decide) (List.mem_of_getElem? (i := 4) rfl) rfl rfl dX7_goes_93 ?_
      refine V_top (b := σ.1 89 28) (rd_k (by decide)) ?_
      refine V_aload_n X 0 rfl dX7_goes_96 rfl ?_
      refine V_get X (ci := 7) (89) (by decide) (rfl) (by decide) rfl (fun _ h => List.mem_cons_of_mem _ (List.mem_append_right _ h)) 29 (by decide) (List.mem_of_getElem? (i := 1) rfl) rfl rfl dX7_goes_97 ?_
      refine V_top (b := σ.1 (93) (b.toNat)) rd_s ?_
      refine V_iadd X dX7_goes_100 ?_
      refine V_put X (ci := 7) (89) (by decide) (rfl) (by decide) rfl (fun _ h => List.mem_cons_of_mem _ (List.mem_append_right _ h)) 28 (by decide) (List.mem_of_getElem? (i := 4) rfl) rfl tyX7 tyX7_ok nmX7 rfl rfl rfl rfl rfl (Nat.le_of_ble_eq_true rfl) dX7_goes_101 ?_
      refine V_aload_n X 0 rfl dX7_goes_104 rfl ?_
      refine V_dup X rfl dX7_goes_105 ?_
      refine V_get X (ci := 7) (89) (by decide) (rfl) (by decide) rfl (fun _ h => List.mem_cons_of_mem _ (List.mem_append_right _ h)) 30 (by decide) (List.mem_of_getElem? (i := 5) rfl) rfl rfl dX7_goes_106 ?_
      refine V_top (b := σ.1 89 30) (Eq.trans (rd_k (by decide)) (rd_k (by decide))) ?_
      refine V_iconst X dX7_goes_109 ?_
      refine V_iadd X dX7_goes_110 ?_
      refine V_put X (ci := 7) (89) (by decide) (rfl) (by decide) rfl (fun _ h => List.mem_cons_of_mem _ (List.mem_append_right _ h)) 30 (by decide) (List.mem_of_getElem? (i := 5) rfl) rfl tyX7 tyX7_ok nmX7 rfl rfl rfl rfl rfl (Nat.le_of_ble_eq_true rfl) dX7_goes_111 ?_
      refine V_aload_n X 0 rfl dX7_goes_114 rfl ?_
      refine V_aload_n X 0 rfl dX7_goes_115 rfl ?_
      refine V_get X (ci := 7) (89) (by decide) (rfl) (by decide) rfl (fun _ h => List.mem_cons_of_mem _ (List.mem_append_right _ h)) 28 (by decide) (List.mem_of_getElem? (i := 4) rfl) rfl rfl dX7_goes_116 ?_
      refine V_top (b := (σ.1 89 28) + (σ.1 (93) (b.toNat))) (Eq.trans (rd_k (by decide)) rd_s) ?_
      refine V_aload_n X 0 rfl dX7_goes_119 rfl ?_
      refine V_iload_n X 1 rfl dX7_goes_120 rfl ?_
      refine V_callV_I X (na := 1) (ci := 7) (b0 := 89) (by decide) (rfl) (by decide) rfl (m_X7_lengthNow g l hl9 (sw (sw (sw σ (89) (29) (σ.1 (93) (b.toNat))) (89) (28) ((σ.1 89 28) + (σ.1 (93) (b.toNat)))) (89) (30) ((σ.1 89 30) + 1)) ((((hR).sw _ _ ⟨by omega, by omega⟩).sw _ _ ⟨by omega, by omega⟩).sw _ _ ⟨by omega, by omega⟩) (TM.code (TM.code (TM.code hTM))) a ha) gX7_goes_X7_lengthNow rfl rfl rfl (by decide +kernel) ⟨Nat.le_of_ble_eq_true rfl, Nat.le_of_ble_eq_true rfl⟩ rfl rfl (Nat.le_of_ble_eq_true rfl) ⟨Nat.le_of_ble_eq_true rfl, Nat.le_of_ble_eq_true rfl⟩ dX7_goes_121 (fun z45 u46 z45r hp47 => ?_)
      obtain ⟨hz, hu48⟩ := hp47
      have hu48 := hu48.symm
      subst hu48
      have hz2 : z45 = lenM σ a.toNat := hz
      subst hz2
      refine V_icmp_lt X 131 ⟨by omega, by omega⟩ ⟨by omega, by omega⟩ dX7_goes_124 (by decide) (fun q49 => ?_) (fun q49 => ?_)
      · skip
        refine V_iconst X dX7_goes_131 ?_
        refine V_put X (ci := 7) (89) (by decide) (rfl) (by decide) rfl (fun _ h => List.mem_cons_of_mem _ (List.mem_append_right _ h)) 31 (by decide) (List.mem_of_getElem? (i := 6) rfl) rfl tyX7 tyX7_ok nmX7 rfl rfl (iN_bool (Or.inl rfl)).1 (iN_bool (Or.inl rfl)).2 rfl (Nat.le_of_ble_eq_true rfl) dX7_goes_132 ?_
        refine V_aload_n X 0 rfl dX7_goes_135 rfl ?_
        refine V_get X (ci := 7) (89) (by decide) (rfl) (by decide) rfl (fun _ h => List.mem_cons_of_mem _ (List.mem_append_right _ h)) 31 (by decide) (List.mem_of_getElem? (i := 6) rfl) rfl rfl dX7_goes_136 ?_
        refine V_top (b := 0) rd_s ?_
        refine V_if_ne X 175 ⟨by decide, by decide⟩ dX7_goes_139 (by decide) (fun h => absurd h (by first | decide | omega)) (fun _ => ?_)
        refine V_aload_n X 0 rfl dX7_goes_142 rfl ?_
        refine V_get X (ci := 7) (89) (by decide) (rfl) (by decide) rfl (fun _ h => List.mem_cons_of_mem _ (List.mem_append_right _ h)) 29 (by decide) (List.mem_of_getElem? (i := 1) rfl) rfl rfl dX7_goes_143 ?_
        refine V_top (b := σ.1 (93) (b.toNat)) (Eq.trans (rd_k (by decide)) (Eq.trans (rd_k (by decide)) (Eq.trans (rd_k (by decide)) rd_s))) ?_
        refine V_aload_n X 0 rfl dX7_goes_146 rfl ?_
        refine V_iload_n X 1 rfl dX7_goes_147 rfl ?_
        refine V_aload_n X 0 rfl dX7_goes_148 rfl ?_
        refine V_get X (ci := 7) (89) (by decide) (rfl) (by decide) rfl (fun _ h => List.mem_cons_of_mem _ (List.mem_append_right _ h)) 28 (by decide) (List.mem_of_getElem? (i := 4) rfl) rfl rfl dX7_goes_149 ?_
        refine V_top (b := (σ.1 89 28) + (σ.1 (93) (b.toNat))) (Eq.trans (rd_k (by decide)) (Eq.trans (rd_k (by decide)) rd_s)) ?_
        refine V_callV_I X (na := 2) (ci := 7) (b0 := 89) (by decide) (rfl) (by decide) rfl (m_X7_limitNow g l hl9 (sw (sw (sw (sw σ (89) (29) (σ.1 (93) (b.toNat))) (89) (28) ((σ.1 89 28) + (σ.1 (93) (b.toNat)))) (89) (30) ((σ.1 89 30) + 1)) (89) (31) (0)) (((((hR).sw _ _ ⟨by omega, by omega⟩).sw _ _ ⟨by omega, by omega⟩).sw _ _ ⟨by omega, by omega⟩).sw _ _ ⟨by decide, by decide⟩) (TM.code (TM.code (TM.code (TM.code hTM)))) a ((σ.1 89 28) + (σ.1 (93) (b.toNat))) ha (by omega) (by show (σ.1 89 28) + (σ.1 (93) (b.toNat)) < lenM σ a.toNat; omega)) gX7_goes_X7_limitNow rfl rfl rfl (by decide +kernel) ⟨Nat.le_of_ble_eq_true rfl, Nat.le_of_ble_eq_true rfl⟩ rfl rfl (Nat.le_of_ble_eq_true rfl) ⟨Nat.le_of_ble_eq_true rfl, Nat.le_of_ble_eq_true rfl⟩ dX7_goes_152 (fun z50 u51 z50r hp52 => ?_)
        obtain ⟨hzl, hu53⟩ := hp52
        have hu53 := hu53.symm
        subst hu53
        have hz3 : z50 = limM σ a.toNat ((σ.1 89 28) + (σ.1 (93) (b.toNat))) := hzl
        have hlb := limM_b hTM (t := a.toNat) (p := (σ.1 89 28) + (σ.1 (93) (b.toNat))) (by omega)
        rw [← hz3] at hlb
        refine V_aload_n X 0 rfl dX7_goes_155 rfl ?_
        refine V_get X (ci := 7) (89) (by decide) (rfl) (by decide) rfl (fun _ h => List.mem_cons_of_mem _ (List.mem_append_right _ h)) 8 (by decide) (List.mem_of_getElem? (i := 7) rfl) rfl rfl dX7_goes_156 ?_
        refine V_iload_n X 2 rfl dX7_goes_159 rfl ?_
        refine V_iald X (N := 4) (95) (by decide) (rfl) (rfl) (by decide) (b.toNat) (by omega) (by omega) dX7_goes_160 ?_
        refine V_top (b := σ.1 (95) (b.toNat)) (Eq.trans (rd_n (by decide)) (Eq.trans (rd_n (by decide)) (Eq.trans (rd_n (by decide)) (rd_n (by decide))))) ?_
        refine V_iadd X dX7_goes_161 ?_
        refine V_icmp_le X 175 (hR _ _) ⟨by omega, by omega⟩ dX7_goes_162 (by decide) (fun q54 => ?_) (fun q54 => ?_)
        · skip
          exact V_vret X hr (by exact ⟨go_end (z := σ.1 (93) (b.toNat)) (spdF_i (by omega)) (((((FrM.rf hR).sw 29 (by omega) ⟨by omega, by omega⟩).sw 28 (by omega) ⟨by omega, by omega⟩).sw 30 (by omega) ⟨by omega, by omega⟩).sw 31 (by omega) ⟨by decide, by decide⟩) (Eq.trans (rd_k (by decide)) (Eq.trans (rd_k (by decide)) rd_s)) (Eq.trans (rd_k (by decide)) rd_s) (Or.inr ⟨by omega, by rw [if_neg (by omega)]; exact (Eq.trans (rd_k (by decide)) (Eq.trans (rd_k (by decide)) (Eq.trans (rd_k (by decide)) rd_s))), rd_s⟩), (Eq.trans (rd_k (by decide)) (Eq.trans (rd_k (by decide)) (Eq.trans (rd_k (by decide)) (rd_k (by decide)))))⟩) dX7_goes_175 (by decide) (by decide)
        · skip
          refine V_aload_n X 0 rfl dX7_goes_165 rfl ?_
          refine V_aload_n X 0 rfl dX7_goes_166 rfl ?_
          refine V_get X (ci := 7) (89) (by decide) (rfl) (by decide) rfl (fun _ h => List.mem_cons_of_mem _ (List.mem_append_right _ h)) 29 (by decide) (List.mem_of_getElem? (i := 1) rfl) rfl rfl dX7_goes_167 ?_
          refine V_top (b := σ.1 (93) (b.toNat)) (Eq.trans (rd_k (by decide)) (Eq.trans (rd_k (by decide)) (Eq.trans (rd_k (by decide)) rd_s))) ?_
          refine V_iconst X dX7_goes_170 ?_
          refine V_idiv X (by omega) (by omega) (by omega) (by omega) dX7_goes_171 ?_
          refine V_put X (ci := 7) (89) (by decide) (rfl) (by decide) rfl (fun _ h => List.mem_cons_of_mem _ (List.mem_append_right _ h)) 29 (by decide) (List.mem_of_getElem? (i := 1) rfl) rfl tyX7 tyX7_ok nmX7 rfl rfl rfl rfl rfl (Nat.le_of_ble_eq_true rfl) dX7_goes_172 ?_
          exact V_vret X hr (by exact ⟨go_end (z := σ.1 (93) (b.toNat)) (spdF_i (by omega)) ((((((FrM.rf hR).sw 29 (by omega) ⟨by omega, by omega⟩).sw 28 (by omega) ⟨by omega, by omega⟩).sw 30 (by omega) ⟨by omega, by omega⟩).sw 31 (by omega) ⟨by decide, by decide⟩).sw 29 (by omega) ⟨by omega, by omega⟩) (Eq.trans (rd_k (by decide)) (Eq.trans (rd_k (by decide)) (Eq.trans (rd_k (by decide)) rd_s))) (Eq.trans (rd_k (by decide)) (Eq.trans (rd_k (by decide)) rd_s)) (Or.inr ⟨by omega, by rw [if_pos (by omega)]; exact rd_s, (Eq.trans (rd_k (by decide)) rd_s)⟩), (Eq.trans (rd_k (by decide)) (Eq.trans (rd_k (by decide)) (Eq.trans (rd_k (by decide)) (Eq.trans (rd_k (by decide)) (rd_k (by decide))))))⟩) dX7_goes_175 (by decide) (by decide)
      · skip
        refine V_iconst X dX7_goes_127 ?_
        refine V_goto X 132 dX7_goes_128 (by decide) ?_
        refine V_put X (ci := 7) (89) (by decide) (rfl) (by decide) rfl (fun _ h => List.mem_cons_of_mem _ (List.mem_append_right _ h)) 31 (by decide) (List.mem_of_getElem? (i := 6) rfl) rfl tyX7 tyX7_ok nmX7 rfl rfl (iN_bool (Or.inr rfl)).1 (iN_bool (Or.inr rfl)).2 rfl (Nat.le_of_ble_eq_true rfl) dX7_goes_132 ?_
        refine V_aload_n X 0 rfl dX7_goes_135 rfl ?_
        refine V_get X (ci := 7) (89) (by decide) (rfl) (by decide) rfl (fun _ h => List.mem_cons_of_mem _ (List.mem_append_right _ h)) 31 (by decide) (List.mem_of_getElem? (i := 6) rfl) rfl rfl dX7_goes_136 ?_
        refine V_top (b := 1) rd_s ?_
        refine V_if_ne X 175 ⟨by decide, by decide⟩ dX7_goes_139 (by decide) (fun _ => ?_) (fun h => absurd h (by first | decide | omega))
        exact V_vret X hr (by exact ⟨go_end (z := σ.1 (93) (b.toNat)) (spdF_i (by omega)) (((((FrM.rf hR).sw 29 (by omega) ⟨by omega, by omega⟩).sw 28 (by omega) ⟨by omega, by omega⟩).sw 30 (by omega) ⟨by omega, by omega⟩).sw 31 (by omega) ⟨by decide, by decide⟩) (Eq.trans (rd_k (by decide)) (Eq.trans (rd_k (by decide)) rd_s)) (Eq.trans (rd_k (by decide)) rd_s) (Or.inl ⟨by omega, (Eq.trans (rd_k (by decide)) (Eq.trans (rd_k (by decide)) (Eq.trans (rd_k (by decide)) rd_s))), rd_s⟩), (Eq.trans (rd_k (by decide)) (Eq.trans (rd_k (by decide)) (Eq.trans (rd_k (by decide)) (rd_k (by decide)))))⟩) dX7_goes_175 (by decide) (by decide)
set_option maxRecDepth 100000 in
set_option maxHeartbeats 4000000 in
theorem m_X7_drives (g : Geo) (l : Launch) (hl9 : l.stackTraces = false) (σ : St) (hR : RG σ) (hTM : TM σ) (hCM : CM σ) (a b : Int) (ha : 0 ≤ a ∧ a < 4) (hb : 0 ≤ b ∧ b < 4) (n : Nat) (hn : σ.1 89 9 = (n : Int)) (hn60 : n ≤ 60) : Met l yX7_drives wsX7_drives ({ frames := 2, cells := 0, slots := 0, locals := 47 }) (va_Pc [.ref (ga g (89)), .int (iN (a)), .int (iN (b))] (World g σ)) (QV g (fun u => MrP σ a.toNat b.toNat (σ.1 96) n u)) 0 0 (gA g) := by
  refine V_met hl9 (by decide) rfl (Nat.le_of_ble_eq_true rfl) ?_
  intro p9 e9 s9 m9 b9 t9 c9 X hr _
  refine V_lv (lv' := [(0, .ref (ga g (89))), (1, .int (iN (a))), (2, .int (iN (b)))]) rfl ?_
  refine V_aload_n X 0 rfl dX7_drives_0 rfl ?_
  refine V_callV_V X (na := 0) (ci := 7) (b0 := 89) (by decide) (rfl) (by decide) rfl (m_X7_starts g l hl9 σ hR) gX7_drives_X7_starts rfl rfl rfl (by decide +kernel) ⟨Nat.le_of_ble_eq_true rfl, Nat.le_of_ble_eq_true rfl⟩ rfl rfl (Nat.le_of_ble_eq_true rfl) ⟨Nat.le_of_ble_eq_true rfl, Nat.le_of_ble_eq_true rfl⟩ dX7_drives_1 (fun u2 hp3 => ?_)
  subst hp3
  refine V_sub (lv' := [(0, .ref (ga g (89))), (1, .int (iN (a))), (2, .int (iN (b)))]) [0, 1, 2] rfl ?_
  refine V_up (N := n) (fun (i : Nat) (u : St) (lw : List (Nat × Value)) => True ∧ [(0, .ref (ga g (89))), (1, .int (iN (a))), (2, .int (iN (b)))] = lw ∧ (MrP σ a.toNat b.toNat (σ.1 96) i u)) (i0 := 0) (Nat.zero_le _) ⟨trivial, rfl, mr_0 hR⟩ ?_ ?_
  · skip
    rintro u1 _ ⟨-, rfl, hv⟩
    have hbd := mr_b hCM (by omega) hv
    have ht9 := mr_31 hv
    have hfin := mr_fin0 hv
    refine V_aload_n X 0 rfl dX7_drives_4 rfl ?_
    refine V_get X (ci := 7) (89) (by decide) (rfl) (by decide) rfl (fun _ h => List.mem_cons_of_mem _ (List.mem_append_right _ h)) 30 (by decide) (List.mem_of_getElem? (i := 1) rfl) rfl rfl dX7_drives_5 ?_
    refine V_aload_n X 0 rfl dX7_drives_8 rfl ?_
    refine V_get X (ci := 7) (89) (by decide) (rfl) (by decide) rfl (fun _ h => List.mem_cons_of_mem _ (List.mem_append_right _ h)) 9 (by decide) (List.mem_of_getElem? (i := 2) rfl) rfl rfl dX7_drives_9 ?_
    refine V_top (b := ((n : Nat) : Int)) (by rw [hv.1.2.1 9 (by decide) (by decide)]; exact hn) ?_
    refine V_icmp_ge X 40 (hv.rg _ _) ⟨by omega, by omega⟩ dX7_drives_12 (by decide) (fun q4 => ?_) (fun q4 => ?_)
    · skip
      exact V_vret X hr (by exact hv) dX7_drives_40 (by decide) (by decide)
    · skip
      refine V_aload_n X 0 rfl dX7_drives_15 rfl ?_
      refine V_get X (ci := 7) (89) (by decide) (rfl) (by decide) rfl (fun _ h => List.mem_cons_of_mem _ (List.mem_append_right _ h)) 31 (by decide) (List.mem_of_getElem? (i := 3) rfl) rfl rfl dX7_drives_16 ?_
      refine V_if_ne X 40 (hv.rg _ _) dX7_drives_19 (by decide) (fun q5 => ?_) (fun q5 => ?_)
      · skip
        exact V_vret X hr (by exact hv) dX7_drives_40 (by decide) (by decide)
      · skip
        exact absurd (mr_tick hv (mr_no hv (by omega))) (by omega)
  · skip
    rintro i u1 _ hiN ⟨-, rfl, hv⟩ kk
    have hbd := mr_b hCM (by omega) hv
    have ht9 := mr_31 hv
    have hfin := mr_fin0 hv
    refine V_aload_n X 0 rfl dX7_drives_4 rfl ?_
    refine V_get X (ci := 7) (89) (by decide) (rfl) (by decide) rfl (fun _ h => List.mem_cons_of_mem _ (List.mem_append_right _ h)) 30 (by decide) (List.mem_of_getElem? (i := 1) rfl) rfl rfl dX7_drives_5 ?_
    refine V_aload_n X 0 rfl dX7_drives_8 rfl ?_
    refine V_get X (ci := 7) (89) (by decide) (rfl) (by decide) rfl (fun _ h => List.mem_cons_of_mem _ (List.mem_append_right _ h)) 9 (by decide) (List.mem_of_getElem? (i := 2) rfl) rfl rfl dX7_drives_9 ?_
    refine V_top (b := ((n : Nat) : Int)) (by rw [hv.1.2.1 9 (by decide) (by decide)]; exact hn) ?_
    refine V_icmp_ge X 40 (hv.rg _ _) ⟨by omega, by omega⟩ dX7_drives_12 (by decide) (fun q6 => ?_) (fun q6 => ?_)
    · skip
      exact V_vret X hr (by exact absurd hbd.2.2.2.2.2 (by omega)) dX7_drives_40 (by decide) (by decide)
    · skip
      refine V_aload_n X 0 rfl dX7_drives_15 rfl ?_
      refine V_get X (ci := 7) (89) (by decide) (rfl) (by decide) rfl (fun _ h => List.mem_cons_of_mem _ (List.mem_append_right _ h)) 31 (by decide) (List.mem_of_getElem? (i := 3) rfl) rfl rfl dX7_drives_16 ?_
      refine V_if_ne X 40 (hv.rg _ _) dX7_drives_19 (by decide) (fun q7 => ?_) (fun q7 => ?_)
      · skip
        exact V_vret X hr (by exact mr_end hv (by omega) (mr_yes hv (by omega))) dX7_drives_40 (by decide) (by decide)
      · skip
        have hno : ¬ (rideM σ a.toNat b.toNat (σ.1 96) i).2.2.2 = true := mr_no hv (by omega)
        have hti := mr_tick hv hno
        refine V_aload_n X 0 rfl dX7_drives_22 rfl ?_
        refine V_iload_n X 1 rfl dX7_drives_23 rfl ?_
        refine V_iload_n X 2 rfl dX7_drives_24 rfl ?_
        refine V_aload_n X 0 rfl dX7_drives_25 rfl ?_
        refine V_get X (ci := 7) (89) (by decide) (rfl) (by decide) rfl (fun _ h => List.mem_cons_of_mem _ (List.mem_append_right _ h)) 10 (by decide) (List.mem_of_getElem? (i := 4) rfl) rfl rfl dX7_drives_26 ?_
        refine V_aload_n X 0 rfl dX7_drives_29 rfl ?_
        refine V_get X (ci := 7) (89) (by decide) (rfl) (by decide) rfl (fun _ h => List.mem_cons_of_mem _ (List.mem_append_right _ h)) 30 (by decide) (List.mem_of_getElem? (i := 1) rfl) rfl rfl dX7_drives_30 ?_
        refine V_cald X (N := 60) (96) (by decide) (rfl) (rfl) (by decide) (i) (hti) (by omega) dX7_drives_33 ?_
        refine V_top (b := σ.1 96 i) (by rw [hv.1.1 96 (by decide) (by decide)]) ?_
        refine V_callV_V X (na := 3) (ci := 7) (b0 := 89) (by decide) (rfl) (by decide) rfl (m_X7_goes g l hl9 u1 hv.rg (hTM.fr hv.1) (hCM.fr hv.1) a b (σ.1 96 i) ha hb (hR _ _) hbd.1 (by omega) hbd.2.2.1 hbd.2.2.2.1 hbd.2.2.2.2.1 (by omega)) gX7_drives_X7_goes rfl rfl rfl (by decide +kernel) ⟨Nat.le_of_ble_eq_true rfl, Nat.le_of_ble_eq_true rfl⟩ rfl rfl (Nat.le_of_ble_eq_true rfl) ⟨Nat.le_of_ble_eq_true rfl, Nat.le_of_ble_eq_true rfl⟩ dX7_drives_34 (fun u9 hp10 => ?_)
        have hv2 := mr_step hv hno hp10.1
        refine V_goto X 4 dX7_drives_37 (by decide) ?_
        refine V_sub (lv' := [(0, .ref (ga g (89))), (1, .int (iN (a))), (2, .int (iN (b)))]) [0, 1, 2] rfl ?_
        exact kk _ _ ⟨trivial, rfl, hv2⟩
set_option maxRecDepth 100000 in
set_option maxHeartbeats 4000000 in
theorem m_X7_timeNow (g : Geo) (l : Launch) (hl9 : l.stackTraces = false) (σ : St) (hR : RG σ) (hTM : TM σ) (a : Int) (ha : 0 ≤ a ∧ a < 4) (b1 : lenM σ a.toNat ≤ σ.1 89 28) (b2 : σ.1 89 28 ≤ 9000) (b3 : 0 < σ.1 89 29) (b4 : σ.1 89 29 ≤ 9) (b5 : 0 ≤ σ.1 89 30) (b6 : σ.1 89 30 ≤ 1000) : Met l yX7_timeNow wsX7_timeNow ({ frames := 1, cells := 0, slots := 0, locals := 23 }) (va_Pc [.ref (ga g (89)), .int (iN (a))] (World g σ)) (QI g (fun z u => z = 100 * σ.1 89 30 - svF (σ.1 89 28 - lenM σ a.toNat) (σ.1 89 29) ∧ u = σ)) 0 0 (gA g) := by
  refine V_met hl9 (by decide) rfl (Nat.le_of_ble_eq_true rfl) ?_
  intro p9 e9 s9 m9 b9 t9 c9 X hr _
  refine V_lv (lv' := [(0, .ref (ga g (89))), (1, .int (iN (a)))]) rfl ?_
  refine V_bipush X (by decide) dX7_timeNow_0 ?_
  refine V_aload_n X 0 rfl dX7_timeNow_2 rfl ?_
  refine V_get X (ci := 7) (89) (by decide) (rfl) (by decide) rfl (fun _ h => List.mem_cons_of_mem _ (List.mem_append_right _ h)) 30 (by decide) (List.mem_of_getElem? (i := 1) rfl) rfl rfl dX7_timeNow_3 ?_
  refine V_imul X dX7_timeNow_6 ?_
  refine V_bipush X (by decide) dX7_timeNow_7 ?_
  refine V_aload_n X 0 rfl dX7_timeNow_9 rfl ?_
  refine V_get X (ci := 7) (89) (by decide) (rfl) (by decide) rfl (fun _ h => List.mem_cons_of_mem _ (List.mem_append_right _ h)) 28 (by decide) (List.mem_of_getElem? (i := 2) rfl) rfl rfl dX7_timeNow_10 ?_
  refine V_aload_n X 0 rfl dX7_timeNow_13 rfl ?_
  refine V_iload_n X 1 rfl dX7_timeNow_14 rfl ?_
  refine V_callV_I X (na := 1) (ci := 7) (b0 := 89) (by decide) (rfl) (by decide) rfl (m_X7_lengthNow g l hl9 σ hR hTM a ha) gX7_timeNow_X7_lengthNow rfl rfl rfl (by decide +kernel) ⟨Nat.le_of_ble_eq_true rfl, Nat.le_of_ble_eq_true rfl⟩ rfl rfl (Nat.le_of_ble_eq_true rfl) ⟨Nat.le_of_ble_eq_true rfl, Nat.le_of_ble_eq_true rfl⟩ dX7_timeNow_15 (fun z1 u2 z1r hp3 => ?_)
  obtain ⟨hz, hu4⟩ := hp3
  have hu4 := hu4.symm
  subst hu4
  subst hz
  have hlb := lenM_b hTM (t := a.toNat) (by omega)
  refine V_isub X dX7_timeNow_18 ?_
  refine V_imul X dX7_timeNow_19 ?_
  refine V_top (b := 100 * (σ.1 89 28 - lenM σ a.toNat)) (rfl) ?_
  refine V_aload_n X 0 rfl dX7_timeNow_20 rfl ?_
  refine V_get X (ci := 7) (89) (by decide) (rfl) (by decide) rfl (fun _ h => List.mem_cons_of_mem _ (List.mem_append_right _ h)) 29 (by decide) (List.mem_of_getElem? (i := 3) rfl) rfl rfl dX7_timeNow_21 ?_
  refine V_idiv X (by omega) (by omega) (by omega) (by omega) dX7_timeNow_24 ?_
  have hdv := div_b (a := 100 * (σ.1 89 28 - lenM σ a.toNat)) (b := σ.1 89 29) (by omega) (by omega)
  refine V_isub X dX7_timeNow_25 ?_
  exact V_iret X hr rfl ⟨by omega, by omega⟩ (by exact ⟨by unfold svF; rw [if_pos (by omega)], rfl⟩) dX7_timeNow_26 (by decide) (by decide)
set_option maxRecDepth 100000 in
set_option maxHeartbeats 4000000 in
theorem m_X7_canDrive (g : Geo) (l : Launch) (hl9 : l.stackTraces = false) (σ : St) (hR : RG σ) (hTM : TM σ) (hCM : CM σ) (a b : Int) (ha : 0 ≤ a ∧ a < 4) (hb : 0 ≤ b ∧ b < 4) (n : Nat) (hn : σ.1 89 9 = (n : Int)) (hn60 : n ≤ 60) : Met l yX7_canDrive wsX7_canDrive ({ frames := 3, cells := 0, slots := 0, locals := 69 }) (va_Pc [.ref (ga g (89)), .int (iN (a)), .int (iN (b))] (World g σ)) (QI g (fun z u => canP σ a.toNat b.toNat n z u)) 0 0 (gA g) := by
  refine V_met hl9 (by decide) rfl (Nat.le_of_ble_eq_true rfl) ?_
  intro p9 e9 s9 m9 b9 t9 c9 X hr _
  refine V_lv (lv' := [(0, .ref (ga g (89))), (1, .int (iN (a))), (2, .int (iN (b)))]) rfl ?_
  refine V_aload_n X 0 rfl dX7_canDrive_0 rfl ?_
  refine V_get X (ci := 7) (89) (by decide) (rfl) (by decide) rfl (fun _ h => List.mem_cons_of_mem _ (List.mem_append_right _ h)) 2 (by decide) (List.mem_of_getElem? (i := 1) rfl) rfl rfl dX7_canDrive_1 ?_
  refine V_iload_n X 1 rfl dX7_canDrive_4 rfl ?_
  refine V_iald X (N := 4) (90) (by decide) (rfl) (rfl) (by decide) (a.toNat) (by omega) (by omega) dX7_canDrive_5 ?_
  refine V_if_ne X 11 (hR _ _) dX7_canDrive_6 (by decide) (fun q1 => ?_) (fun q1 => ?_)
  · skip
    refine V_aload_n X 0 rfl dX7_canDrive_11 rfl ?_
    refine V_iload_n X 1 rfl dX7_canDrive_12 rfl ?_
    refine V_iload_n X 2 rfl dX7_canDrive_13 rfl ?_
    refine V_callV_V X (na := 2) (ci := 7) (b0 := 89) (by decide) (rfl) (by decide) rfl (m_X7_drives g l hl9 σ hR hTM hCM a b ha hb n hn hn60) gX7_canDrive_X7_drives rfl rfl rfl (by decide +kernel) ⟨Nat.le_of_ble_eq_true rfl, Nat.le_of_ble_eq_true rfl⟩ rfl rfl (Nat.le_of_ble_eq_true rfl) ⟨Nat.le_of_ble_eq_true rfl, Nat.le_of_ble_eq_true rfl⟩ dX7_canDrive_14 (fun u3 hp4 => ?_)
    have hv := hp4
    have ht9 := mr_31 hv
    refine V_aload_n X 0 rfl dX7_canDrive_17 rfl ?_
    refine V_get X (ci := 7) (89) (by decide) (rfl) (by decide) rfl (fun _ h => List.mem_cons_of_mem _ (List.mem_append_right _ h)) 31 (by decide) (List.mem_of_getElem? (i := 2) rfl) rfl rfl dX7_canDrive_18 ?_
    exact V_iret X hr (iN_bool (by omega)).1 (hv.rg _ _) (by exact can_1 (by omega) hv) dX7_canDrive_21 (by decide) (by decide)
  · skip
    refine V_iconst X dX7_canDrive_9 ?_
    exact V_iret X hr (iN_bool (Or.inl rfl)).1 ⟨by decide, by decide⟩ (by exact can_0 hR (by omega)) dX7_canDrive_10 (by decide) (by decide)
set_option maxRecDepth 100000 in
set_option maxHeartbeats 4000000 in
theorem m_X7_isGhost (g : Geo) (l : Launch) (hl9 : l.stackTraces = false) (σ : St) (hR : RG σ) (hL4 : 0 ≤ σ.1 89 11 ∧ σ.1 89 11 ≤ 30) (gh tr : Int) (hgh : R32 gh) (htr : R32 tr) : Met l yX7_isGhost wsX7_isGhost ({ frames := 2, cells := 0, slots := 0, locals := 43 }) (va_Pc [.ref (ga g (89)), .int (iN (gh)), .int (iN (tr))] (World g σ)) (QI g (fun z u => z = (@ite Int (ghM σ gh tr) (Classical.propDecidable _) 1 0) ∧ u = σ)) 0 0 (gA g) := by
  refine V_met hl9 (by decide) rfl (Nat.le_of_ble_eq_true rfl) ?_
  intro p9 e9 s9 m9 b9 t9 c9 X hr _
  refine V_lv (lv' := [(0, .ref (ga g (89))), (1, .int (iN (gh))), (2, .int (iN (tr)))]) rfl ?_
  refine V_iload_n X 1 rfl dX7_isGhost_0 rfl ?_
  refine V_iconst X dX7_isGhost_1 ?_
  refine V_icmp_eq X 32 hgh ⟨by decide, by decide⟩ dX7_isGhost_2 (by decide) (fun q1 => ?_) (fun q1 => ?_)
  · skip
    refine V_iconst X dX7_isGhost_32 ?_
    refine V_goto X 37 dX7_isGhost_33 (by decide) ?_
    exact V_iret X hr (iN_bool (Or.inr rfl)).1 ⟨by decide, by decide⟩ (by exact ⟨by rw [if_pos (by unfold ghM; omega)], rfl⟩) dX7_isGhost_37 (by decide) (by decide)
  · skip
    refine V_aload_n X 0 rfl dX7_isGhost_5 rfl ?_
    refine V_iload_n X 1 rfl dX7_isGhost_6 rfl ?_
    refine V_callV_I X (na := 1) (ci := 7) (b0 := 89) (by decide) (rfl) (by decide) rfl (m_X7_isNoLap g l hl9 σ hR gh hgh hL4) gX7_isGhost_X7_isNoLap rfl rfl rfl (by decide +kernel) ⟨Nat.le_of_ble_eq_true rfl, Nat.le_of_ble_eq_true rfl⟩ rfl rfl (Nat.le_of_ble_eq_true rfl) ⟨Nat.le_of_ble_eq_true rfl, Nat.le_of_ble_eq_true rfl⟩ dX7_isGhost_7 (fun z2 u3 z2r hp4 => ?_)
    obtain ⟨hz9, hu5⟩ := hp4
    have hu5 := hu5.symm
    subst hu5
    rcases Classical.em (0 ≤ gh ∧ gh < σ.1 89 11) with hL | hL
    · skip
      rw [if_pos hL] at hz9
      subst hz9
      refine V_if_ne X 36 ⟨by decide, by decide⟩ dX7_isGhost_10 (by decide) (fun h => absurd h (by first | decide | omega)) (fun _ => ?_)
      refine V_aload_n X 0 rfl dX7_isGhost_13 rfl ?_
      refine V_get X (ci := 7) (89) (by decide) (rfl) (by decide) rfl (fun _ h => List.mem_cons_of_mem _ (List.mem_append_right _ h)) 17 (by decide) (List.mem_of_getElem? (i := 1) rfl) rfl rfl dX7_isGhost_14 ?_
      refine V_iload_n X 1 rfl dX7_isGhost_17 rfl ?_
      refine V_iald X (N := 30) (102) (by decide) (rfl) (rfl) (by decide) (gh.toNat) (by omega) (by omega) dX7_isGhost_18 ?_
      refine V_iload_n X 2 rfl dX7_isGhost_19 rfl ?_
      refine V_icmp_ne X 36 (hR _ _) htr dX7_isGhost_20 (by decide) (fun q6 => ?_) (fun q6 => ?_)
      · skip
        refine V_iconst X dX7_isGhost_36 ?_
        exact V_iret X hr (iN_bool (Or.inl rfl)).1 ⟨by decide, by decide⟩ (by exact ⟨by rw [if_neg (by unfold ghM; omega)], rfl⟩) dX7_isGhost_37 (by decide) (by decide)
      · skip
        refine V_aload_n X 0 rfl dX7_isGhost_23 rfl ?_
        refine V_get X (ci := 7) (89) (by decide) (rfl) (by decide) rfl (fun _ h => List.mem_cons_of_mem _ (List.mem_append_right _ h)) 22 (by decide) (List.mem_of_getElem? (i := 2) rfl) rfl rfl dX7_isGhost_24 ?_
        refine V_iload_n X 1 rfl dX7_isGhost_27 rfl ?_
        refine V_zald X (N := 30) (107) (by decide) (rfl) (rfl) (by decide) (gh.toNat) (by omega) (by omega) dX7_isGhost_28 ?_
        refine V_if_ne X 36 (hR _ _) dX7_isGhost_29 (by decide) (fun q7 => ?_) (fun q7 => ?_)
        · skip
          refine V_iconst X dX7_isGhost_36 ?_
          exact V_iret X hr (iN_bool (Or.inl rfl)).1 ⟨by decide, by decide⟩ (by exact ⟨by rw [if_neg (by unfold ghM; omega)], rfl⟩) dX7_isGhost_37 (by decide) (by decide)
        · skip
          refine V_iconst X dX7_isGhost_32 ?_
          refine V_goto X 37 dX7_isGhost_33 (by decide) ?_
          exact V_iret X hr (iN_bool (Or.inr rfl)).1 ⟨by decide, by decide⟩ (by exact ⟨by rw [if_pos (by unfold ghM; omega)], rfl⟩) dX7_isGhost_37 (by decide) (by decide)
    · skip
      rw [if_neg hL] at hz9
      subst hz9
      refine V_if_ne X 36 ⟨by decide, by decide⟩ dX7_isGhost_10 (by decide) (fun _ => ?_) (fun h => absurd h (by first | decide | omega))
      refine V_iconst X dX7_isGhost_36 ?_
      exact V_iret X hr (iN_bool (Or.inl rfl)).1 ⟨by decide, by decide⟩ (by exact ⟨by rw [if_neg (by unfold ghM; omega)], rfl⟩) dX7_isGhost_37 (by decide) (by decide)
set_option maxRecDepth 100000 in
set_option maxHeartbeats 4000000 in
theorem m_X7_laps (g : Geo) (l : Launch) (hl9 : l.stackTraces = false) (σ : St) (hR : RG σ) : Met l yX7_laps wsX7_laps ({ frames := 0, cells := 0, slots := 0, locals := 0 }) (va_Pc [.ref (ga g (89))] (World g σ)) (QI g (fun z u => z = σ.1 89 11 ∧ u = sw σ 89 0 0)) 0 0 (gA g) := by
  refine V_met hl9 (by decide) rfl (Nat.le_of_ble_eq_true rfl) ?_
  intro p9 e9 s9 m9 b9 t9 c9 X hr _
  refine V_lv (lv' := [(0, .ref (ga g (89)))]) rfl ?_
  refine V_aload_n X 0 rfl dX7_laps_0 rfl ?_
  refine V_iconst X dX7_laps_1 ?_
  refine V_put X (ci := 7) (89) (by decide) (rfl) (by decide) rfl (fun _ h => List.mem_cons_of_mem _ (List.mem_append_right _ h)) 0 (by decide) (List.mem_of_getElem? (i := 1) rfl) rfl tyX7 tyX7_ok nmX7 rfl rfl rfl rfl rfl (Nat.le_of_ble_eq_true rfl) dX7_laps_2 ?_
  refine V_aload_n X 0 rfl dX7_laps_5 rfl ?_
  refine V_get X (ci := 7) (89) (by decide) (rfl) (by decide) rfl (fun _ h => List.mem_cons_of_mem _ (List.mem_append_right _ h)) 11 (by decide) (List.mem_of_getElem? (i := 2) rfl) rfl rfl dX7_laps_6 ?_
  refine V_top (b := σ.1 89 11) (rd_k (by decide)) ?_
  exact V_iret X hr rfl (hR _ _) (by exact ⟨rfl, rfl⟩) dX7_laps_9 (by decide) (by decide)
set_option maxRecDepth 100000 in
set_option maxHeartbeats 4000000 in
theorem m_X7_countOf (g : Geo) (l : Launch) (hl9 : l.stackTraces = false) (σ : St) (hR : RG σ) (a : Int) (ha1 : 0 ≤ a ∧ a < 30) (h1 : -2147483648 ≤ cntM σ a.toNat) (h2 : cntM σ a.toNat ≤ 2147483647) : Met l yX7_countOf wsX7_countOf ({ frames := 0, cells := 0, slots := 0, locals := 0 }) (va_Pc [.ref (ga g (89)), .int (iN (a))] (World g σ)) (QI g (fun z u => z = cntM σ a.toNat ∧ u = σ)) 0 0 (gA g) := by
  refine V_met hl9 (by decide) rfl (Nat.le_of_ble_eq_true rfl) ?_
  intro p9 e9 s9 m9 b9 t9 c9 X hr _
  unfold cntM at h1 h2
  refine V_lv (lv' := [(0, .ref (ga g (89))), (1, .int (iN (a)))]) rfl ?_
  refine V_aload_n X 0 rfl dX7_countOf_0 rfl ?_
  refine V_get X (ci := 7) (89) (by decide) (rfl) (by decide) rfl (fun _ h => List.mem_cons_of_mem _ (List.mem_append_right _ h)) 14 (by decide) (List.mem_of_getElem? (i := 1) rfl) rfl rfl dX7_countOf_1 ?_
  refine V_iload_n X 1 rfl dX7_countOf_4 rfl ?_
  refine V_iald X (N := 30) (99) (by decide) (rfl) (rfl) (by decide) (a.toNat) (by omega) (by omega) dX7_countOf_5 ?_
  refine V_aload_n X 0 rfl dX7_countOf_6 rfl ?_
  refine V_get X (ci := 7) (89) (by decide) (rfl) (by decide) rfl (fun _ h => List.mem_cons_of_mem _ (List.mem_append_right _ h)) 15 (by decide) (List.mem_of_getElem? (i := 2) rfl) rfl rfl dX7_countOf_7 ?_
  refine V_iload_n X 1 rfl dX7_countOf_10 rfl ?_
  refine V_iald X (N := 30) (100) (by decide) (rfl) (rfl) (by decide) (a.toNat) (by omega) (by omega) dX7_countOf_11 ?_
  refine V_iadd X dX7_countOf_12 ?_
  exact V_iret X hr rfl ⟨by omega, by omega⟩ (by exact ⟨rfl, rfl⟩) dX7_countOf_13 (by decide) (by decide)
set_option maxRecDepth 100000 in
set_option maxHeartbeats 4000000 in
theorem m_X7_time (g : Geo) (l : Launch) (hl9 : l.stackTraces = false) (σ : St) (hR : RG σ) (hL4 : 0 ≤ σ.1 89 11 ∧ σ.1 89 11 ≤ 30) (a w : Int) (ha : R32 a) (hw : R32 w) (hcb : ∀ l : Nat, (l : Int) < σ.1 89 11 → 0 ≤ cntM σ l ∧ cntM σ l ≤ 1009999) : Met l yX7_time wsX7_time ({ frames := 2, cells := 0, slots := 0, locals := 43 }) (va_Pc [.ref (ga g (89)), .int (iN (a)), .int (iN (w))] (World g σ)) (QI g (fun z u => ((0 ≤ a ∧ a < σ.1 89 11) ∧ z = (if w = 0 then σ.1 99 a.toNat else cntM σ a.toNat) ∧ u = sw σ 89 0 0) ∨ (¬ (0 ≤ a ∧ a < σ.1 89 11) ∧ u = sw σ 89 0 1))) 0 0 (gA g) := by
  refine V_met hl9 (by decide) rfl (Nat.le_of_ble_eq_true rfl) ?_
  intro p9 e9 s9 m9 b9 t9 c9 X hr _
  refine V_lv (lv' := [(0, .ref (ga g (89))), (1, .int (iN (a))), (2, .int (iN (w)))]) rfl ?_
  refine V_aload_n X 0 rfl dX7_time_0 rfl ?_
  refine V_aload_n X 0 rfl dX7_time_1 rfl ?_
  refine V_iload_n X 1 rfl dX7_time_2 rfl ?_
  refine V_callV_I X (na := 1) (ci := 7) (b0 := 89) (by decide) (rfl) (by decide) rfl (m_X7_isNoLap g l hl9 σ hR a ha hL4) gX7_time_X7_isNoLap rfl rfl rfl (by decide +kernel) ⟨Nat.le_of_ble_eq_true rfl, Nat.le_of_ble_eq_true rfl⟩ rfl rfl (Nat.le_of_ble_eq_true rfl) ⟨Nat.le_of_ble_eq_true rfl, Nat.le_of_ble_eq_true rfl⟩ dX7_time_3 (fun z1 u2 z1r hp3 => ?_)
  obtain ⟨hz9, hu4⟩ := hp3
  have hu4 := hu4.symm
  subst hu4
  rcases Classical.em (0 ≤ a ∧ a < σ.1 89 11) with hL | hL
  · skip
    rw [if_pos hL] at hz9
    subst hz9
    refine V_if_eq X 13 ⟨by decide, by decide⟩ dX7_time_6 (by decide) (fun _ => ?_) (fun h => absurd h (by first | decide | omega))
    refine V_iconst X dX7_time_13 ?_
    refine V_callV_I X (na := 1) (ci := 7) (b0 := 89) (by decide) (rfl) (by decide) rfl (m_X7_fails g l hl9 σ hR 0 ⟨by decide, by decide⟩) gX7_time_X7_fails rfl rfl rfl (by decide +kernel) ⟨Nat.le_of_ble_eq_true rfl, Nat.le_of_ble_eq_true rfl⟩ rfl rfl (Nat.le_of_ble_eq_true rfl) ⟨Nat.le_of_ble_eq_true rfl, Nat.le_of_ble_eq_true rfl⟩ dX7_time_14 (fun z5 u6 z5r hp7 => ?_)
    obtain ⟨hz9, hu8⟩ := hp7
    have hu8 := hu8.symm
    subst hu8
    rw [if_neg (by decide)] at hz9
    subst hz9
    refine V_if_eq X 24 ⟨by decide, by decide⟩ dX7_time_17 (by decide) (fun _ => ?_) (fun h => absurd h (by first | decide | omega))
    refine V_iload_n X 2 rfl dX7_time_24 rfl ?_
    refine V_if_eq X 36 hw dX7_time_25 (by decide) (fun q9 => ?_) (fun q9 => ?_)
    · skip
      refine V_aload_n X 0 rfl dX7_time_36 rfl ?_
      refine V_get X (ci := 7) (89) (by decide) (rfl) (by decide) rfl (fun _ h => List.mem_cons_of_mem _ (List.mem_append_right _ h)) 14 (by decide) (List.mem_of_getElem? (i := 1) rfl) rfl rfl dX7_time_37 ?_
      refine V_iload_n X 1 rfl dX7_time_40 rfl ?_
      refine V_iald X (N := 30) (99) (by decide) (rfl) (rfl) (by decide) (a.toNat) (by omega) (by omega) dX7_time_41 ?_
      refine V_top (b := σ.1 (99) (a.toNat)) (rd_n (by decide)) ?_
      exact V_iret X hr rfl (hR _ _) (by exact Or.inl ⟨hL, by rw [if_pos (by omega)], rfl⟩) dX7_time_42 (by decide) (by decide)
    · skip
      refine V_aload_n X 0 rfl dX7_time_28 rfl ?_
      refine V_iload_n X 1 rfl dX7_time_29 rfl ?_
      have hcc := hcb a.toNat (by omega)
      refine V_callV_I X (na := 1) (ci := 7) (b0 := 89) (by decide) (rfl) (by decide) rfl (m_X7_countOf g l hl9 (sw σ 89 0 0) (hR.sw _ _ ⟨by decide, by decide⟩) a (by omega) (by show -2147483648 ≤ cntM σ a.toNat; omega) (by show cntM σ a.toNat ≤ _; omega)) gX7_time_X7_countOf rfl rfl rfl (by decide +kernel) ⟨Nat.le_of_ble_eq_true rfl, Nat.le_of_ble_eq_true rfl⟩ rfl rfl (Nat.le_of_ble_eq_true rfl) ⟨Nat.le_of_ble_eq_true rfl, Nat.le_of_ble_eq_true rfl⟩ dX7_time_30 (fun z10 u11 z10r hp12 => ?_)
      obtain ⟨hz, hu13⟩ := hp12
      have hu13 := hu13.symm
      subst hu13
      refine V_goto X 42 dX7_time_33 (by decide) ?_
      exact V_iret X hr rfl z10r (by exact Or.inl ⟨hL, by rw [if_neg (by omega)]; exact hz, rfl⟩) dX7_time_42 (by decide) (by decide)
  · skip
    rw [if_neg hL] at hz9
    subst hz9
    refine V_if_eq X 13 ⟨by decide, by decide⟩ dX7_time_6 (by decide) (fun h => absurd h (by first | decide | omega)) (fun _ => ?_)
    refine V_iconst X dX7_time_9 ?_
    refine V_goto X 14 dX7_time_10 (by decide) ?_
    refine V_callV_I X (na := 1) (ci := 7) (b0 := 89) (by decide) (rfl) (by decide) rfl (m_X7_fails g l hl9 σ hR 1 ⟨by decide, by decide⟩) gX7_time_X7_fails rfl rfl rfl (by decide +kernel) ⟨Nat.le_of_ble_eq_true rfl, Nat.le_of_ble_eq_true rfl⟩ rfl rfl (Nat.le_of_ble_eq_true rfl) ⟨Nat.le_of_ble_eq_true rfl, Nat.le_of_ble_eq_true rfl⟩ dX7_time_14 (fun z14 u15 z14r hp16 => ?_)
    obtain ⟨hz9, hu17⟩ := hp16
    have hu17 := hu17.symm
    subst hu17
    rw [if_pos (by decide)] at hz9
    subst hz9
    refine V_if_eq X 24 ⟨by decide, by decide⟩ dX7_time_17 (by decide) (fun h => absurd h (by first | decide | omega)) (fun _ => ?_)
    refine V_iconst X dX7_time_20 ?_
    refine V_goto X 42 dX7_time_21 (by decide) ?_
    exact V_iret X hr rfl ⟨by decide, by decide⟩ (by exact Or.inr ⟨hL, rfl⟩) dX7_time_42 (by decide) (by decide)
set_option maxRecDepth 100000 in
set_option maxHeartbeats 4000000 in
theorem m_X7_ticks (g : Geo) (l : Launch) (hl9 : l.stackTraces = false) (σ : St) (hR : RG σ) (hL4 : 0 ≤ σ.1 89 11 ∧ σ.1 89 11 ≤ 30) (a : Int) (ha : R32 a) : Met l yX7_ticks wsX7_ticks ({ frames := 2, cells := 0, slots := 0, locals := 43 }) (va_Pc [.ref (ga g (89)), .int (iN (a))] (World g σ)) (QI g (fun z u => ((0 ≤ a ∧ a < σ.1 89 11) ∧ z = σ.1 98 a.toNat ∧ u = sw σ 89 0 0) ∨ (¬ (0 ≤ a ∧ a < σ.1 89 11) ∧ u = sw σ 89 0 1))) 0 0 (gA g) := by
  refine V_met hl9 (by decide) rfl (Nat.le_of_ble_eq_true rfl) ?_
  intro p9 e9 s9 m9 b9 t9 c9 X hr _
  refine V_lv (lv' := [(0, .ref (ga g (89))), (1, .int (iN (a)))]) rfl ?_
  refine V_aload_n X 0 rfl dX7_ticks_0 rfl ?_
  refine V_aload_n X 0 rfl dX7_ticks_1 rfl ?_
  refine V_iload_n X 1 rfl dX7_ticks_2 rfl ?_
  refine V_callV_I X (na := 1) (ci := 7) (b0 := 89) (by decide) (rfl) (by decide) rfl (m_X7_isNoLap g l hl9 σ hR a ha hL4) gX7_ticks_X7_isNoLap rfl rfl rfl (by decide +kernel) ⟨Nat.le_of_ble_eq_true rfl, Nat.le_of_ble_eq_true rfl⟩ rfl rfl (Nat.le_of_ble_eq_true rfl) ⟨Nat.le_of_ble_eq_true rfl, Nat.le_of_ble_eq_true rfl⟩ dX7_ticks_3 (fun z1 u2 z1r hp3 => ?_)
  obtain ⟨hz9, hu4⟩ := hp3
  have hu4 := hu4.symm
  subst hu4
  rcases Classical.em (0 ≤ a ∧ a < σ.1 89 11) with hL | hL
  · skip
    rw [if_pos hL] at hz9
    subst hz9
    refine V_if_eq X 13 ⟨by decide, by decide⟩ dX7_ticks_6 (by decide) (fun _ => ?_) (fun h => absurd h (by first | decide | omega))
    refine V_iconst X dX7_ticks_13 ?_
    refine V_callV_I X (na := 1) (ci := 7) (b0 := 89) (by decide) (rfl) (by decide) rfl (m_X7_fails g l hl9 σ hR 0 ⟨by decide, by decide⟩) gX7_ticks_X7_fails rfl rfl rfl (by decide +kernel) ⟨Nat.le_of_ble_eq_true rfl, Nat.le_of_ble_eq_true rfl⟩ rfl rfl (Nat.le_of_ble_eq_true rfl) ⟨Nat.le_of_ble_eq_true rfl, Nat.le_of_ble_eq_true rfl⟩ dX7_ticks_14 (fun z5 u6 z5r hp7 => ?_)
    obtain ⟨hz9, hu8⟩ := hp7
    have hu8 := hu8.symm
    subst hu8
    rw [if_neg (by decide)] at hz9
    subst hz9
    refine V_if_eq X 24 ⟨by decide, by decide⟩ dX7_ticks_17 (by decide) (fun _ => ?_) (fun h => absurd h (by first | decide | omega))
    refine V_aload_n X 0 rfl dX7_ticks_24 rfl ?_
    refine V_get X (ci := 7) (89) (by decide) (rfl) (by decide) rfl (fun _ h => List.mem_cons_of_mem _ (List.mem_append_right _ h)) 13 (by decide) (List.mem_of_getElem? (i := 1) rfl) rfl rfl dX7_ticks_25 ?_
    refine V_iload_n X 1 rfl dX7_ticks_28 rfl ?_
    refine V_iald X (N := 30) (98) (by decide) (rfl) (rfl) (by decide) (a.toNat) (by omega) (by omega) dX7_ticks_29 ?_
    refine V_top (b := σ.1 (98) (a.toNat)) (rd_n (by decide)) ?_
    exact V_iret X hr rfl (hR _ _) (by exact Or.inl ⟨hL, rfl, rfl⟩) dX7_ticks_30 (by decide) (by decide)
  · skip
    rw [if_neg hL] at hz9
    subst hz9
    refine V_if_eq X 13 ⟨by decide, by decide⟩ dX7_ticks_6 (by decide) (fun h => absurd h (by first | decide | omega)) (fun _ => ?_)
    refine V_iconst X dX7_ticks_9 ?_
    refine V_goto X 14 dX7_ticks_10 (by decide) ?_
    refine V_callV_I X (na := 1) (ci := 7) (b0 := 89) (by decide) (rfl) (by decide) rfl (m_X7_fails g l hl9 σ hR 1 ⟨by decide, by decide⟩) gX7_ticks_X7_fails rfl rfl rfl (by decide +kernel) ⟨Nat.le_of_ble_eq_true rfl, Nat.le_of_ble_eq_true rfl⟩ rfl rfl (Nat.le_of_ble_eq_true rfl) ⟨Nat.le_of_ble_eq_true rfl, Nat.le_of_ble_eq_true rfl⟩ dX7_ticks_14 (fun z9 u10 z9r hp11 => ?_)
    obtain ⟨hz9, hu12⟩ := hp11
    have hu12 := hu12.symm
    subst hu12
    rw [if_pos (by decide)] at hz9
    subst hz9
    refine V_if_eq X 24 ⟨by decide, by decide⟩ dX7_ticks_17 (by decide) (fun h => absurd h (by first | decide | omega)) (fun _ => ?_)
    refine V_iconst X dX7_ticks_20 ?_
    refine V_goto X 30 dX7_ticks_21 (by decide) ?_
    exact V_iret X hr rfl ⟨by decide, by decide⟩ (by exact Or.inr ⟨hL, rfl⟩) dX7_ticks_30 (by decide) (by decide)
set_option maxRecDepth 100000 in
set_option maxHeartbeats 4000000 in
theorem m_X7_inputAt (g : Geo) (l : Launch) (hl9 : l.stackTraces = false) (σ : St) (hR : RG σ) (hL4 : 0 ≤ σ.1 89 11 ∧ σ.1 89 11 ≤ 30) (a k : Int) (ha : R32 a) (hk : R32 k) (htk : ∀ l : Nat, (l : Int) < σ.1 89 11 → 0 ≤ σ.1 98 l ∧ σ.1 98 l ≤ 60) (hch : ∀ i, i < 1800 → 0 ≤ σ.1 97 i ∧ σ.1 97 i < 65536) : Met l yX7_inputAt wsX7_inputAt ({ frames := 2, cells := 0, slots := 0, locals := 43 }) (va_Pc [.ref (ga g (89)), .int (iN (a)), .int (iN (k))] (World g σ)) (QI g (fun z u => ((0 ≤ a ∧ a < σ.1 89 11) ∧ (0 ≤ k ∧ k < σ.1 98 a.toNat) ∧ z = inM σ a.toNat k.toNat ∧ u = sw σ 89 0 0) ∨ (¬ (0 ≤ a ∧ a < σ.1 89 11) ∧ u = sw σ 89 0 1) ∨ ((0 ≤ a ∧ a < σ.1 89 11) ∧ ¬ (0 ≤ k ∧ k < σ.1 98 a.toNat) ∧ u = sw σ 89 0 2))) 0 0 (gA g) := by
  refine V_met hl9 (by decide) rfl (Nat.le_of_ble_eq_true rfl) ?_
  intro p9 e9 s9 m9 b9 t9 c9 X hr _
  refine V_lv (lv' := [(0, .ref (ga g (89))), (1, .int (iN (a))), (2, .int (iN (k)))]) rfl ?_
  refine V_aload_n X 0 rfl dX7_inputAt_0 rfl ?_
  refine V_aload_n X 0 rfl dX7_inputAt_1 rfl ?_
  refine V_iload_n X 1 rfl dX7_inputAt_2 rfl ?_
  refine V_callV_I X (na := 1) (ci := 7) (b0 := 89) (by decide) (rfl) (by decide) rfl (m_X7_isNoLap g l hl9 σ hR a ha hL4) gX7_inputAt_X7_isNoLap rfl rfl rfl (by decide +kernel) ⟨Nat.le_of_ble_eq_true rfl, Nat.le_of_ble_eq_true rfl⟩ rfl rfl (Nat.le_of_ble_eq_true rfl) ⟨Nat.le_of_ble_eq_true rfl, Nat.le_of_ble_eq_true rfl⟩ dX7_inputAt_3 (fun z1 u2 z1r hp3 => ?_)
  obtain ⟨hz9, hu4⟩ := hp3
  have hu4 := hu4.symm
  subst hu4
  rcases Classical.em (0 ≤ a ∧ a < σ.1 89 11) with hL | hL
  · skip
    rw [if_pos hL] at hz9
    subst hz9
    refine V_if_eq X 13 ⟨by decide, by decide⟩ dX7_inputAt_6 (by decide) (fun _ => ?_) (fun h => absurd h (by first | decide | omega))
    refine V_iload_n X 2 rfl dX7_inputAt_13 rfl ?_
    refine V_iconst X dX7_inputAt_14 ?_
    refine V_aload_n X 0 rfl dX7_inputAt_15 rfl ?_
    refine V_get X (ci := 7) (89) (by decide) (rfl) (by decide) rfl (fun _ h => List.mem_cons_of_mem _ (List.mem_append_right _ h)) 13 (by decide) (List.mem_of_getElem? (i := 1) rfl) rfl rfl dX7_inputAt_16 ?_
    refine V_iload_n X 1 rfl dX7_inputAt_19 rfl ?_
    have htt := htk a.toNat (by omega)
    refine V_iald X (N := 30) (98) (by decide) (rfl) (rfl) (by decide) (a.toNat) (by omega) (by omega) dX7_inputAt_20 ?_
    refine V_iconst X dX7_inputAt_21 ?_
    refine V_isub X dX7_inputAt_22 ?_
    refine V_callS_I X (na := 3) (m_X7_in g l hl9 σ k 0 (σ.1 98 a.toNat - 1) hk ⟨by decide, by decide⟩ ⟨by omega, by omega⟩) gX7_inputAt_X7_in rfl rfl rfl (by decide +kernel) ⟨Nat.le_of_ble_eq_true rfl, Nat.le_of_ble_eq_true rfl⟩ rfl rfl (Nat.le_of_ble_eq_true rfl) ⟨Nat.le_of_ble_eq_true rfl, Nat.le_of_ble_eq_true rfl⟩ dX7_inputAt_23 (fun z5 u6 z5r hp7 => ?_)
    obtain ⟨hz9, hu8⟩ := hp7
    have hu8 := hu8.symm
    subst hu8
    rcases Classical.em (0 ≤ k ∧ k ≤ σ.1 98 a.toNat - 1) with hK | hK
    · skip
      rw [if_pos hK] at hz9
      subst hz9
      refine V_if_ne X 33 ⟨by decide, by decide⟩ dX7_inputAt_26 (by decide) (fun _ => ?_) (fun h => absurd h (by first | decide | omega))
      refine V_iconst X dX7_inputAt_33 ?_
      refine V_callV_I X (na := 1) (ci := 7) (b0 := 89) (by decide) (rfl) (by decide) rfl (m_X7_fails g l hl9 σ hR 0 ⟨by decide, by decide⟩) gX7_inputAt_X7_fails rfl rfl rfl (by decide +kernel) ⟨Nat.le_of_ble_eq_true rfl, Nat.le_of_ble_eq_true rfl⟩ rfl rfl (Nat.le_of_ble_eq_true rfl) ⟨Nat.le_of_ble_eq_true rfl, Nat.le_of_ble_eq_true rfl⟩ dX7_inputAt_34 (fun z9 u10 z9r hp11 => ?_)
      obtain ⟨hz9, hu12⟩ := hp11
      have hu12 := hu12.symm
      subst hu12
      rw [if_neg (by decide)] at hz9
      subst hz9
      refine V_if_eq X 45 ⟨by decide, by decide⟩ dX7_inputAt_37 (by decide) (fun _ => ?_) (fun h => absurd h (by first | decide | omega))
      refine V_aload_n X 0 rfl dX7_inputAt_45 rfl ?_
      refine V_get X (ci := 7) (89) (by decide) (rfl) (by decide) rfl (fun _ h => List.mem_cons_of_mem _ (List.mem_append_right _ h)) 12 (by decide) (List.mem_of_getElem? (i := 2) rfl) rfl rfl dX7_inputAt_46 ?_
      refine V_bipush X (by decide) dX7_inputAt_49 ?_
      refine V_iload_n X 1 rfl dX7_inputAt_51 rfl ?_
      refine V_imul X dX7_inputAt_52 ?_
      refine V_top (b := 60 * a) (rfl) ?_
      refine V_iload_n X 2 rfl dX7_inputAt_53 rfl ?_
      refine V_iadd X dX7_inputAt_54 ?_
      refine V_top (b := 60 * a + k) (rfl) ?_
      refine V_cald X (N := 1800) (97) (by decide) (rfl) (rfl) (by decide) (60 * a.toNat + k.toNat) (by omega) (by omega) dX7_inputAt_55 ?_
      refine V_top (b := σ.1 (97) (60 * a.toNat + k.toNat)) (rd_n (by decide)) ?_
      have hcc := hch (60 * a.toNat + k.toNat) (by omega)
      exact V_iret X hr (iN_char (by omega) (by omega)).1 (hR _ _) (by exact Or.inl ⟨hL, by omega, rfl, rfl⟩) dX7_inputAt_56 (by decide) (by decide)
    · skip
      rw [if_neg hK] at hz9
      subst hz9
      refine V_if_ne X 33 ⟨by decide, by decide⟩ dX7_inputAt_26 (by decide) (fun h => absurd h (by first | decide | omega)) (fun _ => ?_)
      refine V_iconst X dX7_inputAt_29 ?_
      refine V_goto X 34 dX7_inputAt_30 (by decide) ?_
      refine V_callV_I X (na := 1) (ci := 7) (b0 := 89) (by decide) (rfl) (by decide) rfl (m_X7_fails g l hl9 σ hR 2 ⟨by decide, by decide⟩) gX7_inputAt_X7_fails rfl rfl rfl (by decide +kernel) ⟨Nat.le_of_ble_eq_true rfl, Nat.le_of_ble_eq_true rfl⟩ rfl rfl (Nat.le_of_ble_eq_true rfl) ⟨Nat.le_of_ble_eq_true rfl, Nat.le_of_ble_eq_true rfl⟩ dX7_inputAt_34 (fun z13 u14 z13r hp15 => ?_)
      obtain ⟨hz9, hu16⟩ := hp15
      have hu16 := hu16.symm
      subst hu16
      rw [if_pos (by decide)] at hz9
      subst hz9
      refine V_if_eq X 45 ⟨by decide, by decide⟩ dX7_inputAt_37 (by decide) (fun h => absurd h (by first | decide | omega)) (fun _ => ?_)
      refine V_bipush X (by decide) dX7_inputAt_40 ?_
      refine V_goto X 56 dX7_inputAt_42 (by decide) ?_
      exact V_iret X hr (iN_char (by omega) (by omega)).1 ⟨by decide, by decide⟩ (by exact Or.inr (Or.inr ⟨hL, by omega, rfl⟩)) dX7_inputAt_56 (by decide) (by decide)
  · skip
    rw [if_neg hL] at hz9
    subst hz9
    refine V_if_eq X 13 ⟨by decide, by decide⟩ dX7_inputAt_6 (by decide) (fun h => absurd h (by first | decide | omega)) (fun _ => ?_)
    refine V_iconst X dX7_inputAt_9 ?_
    refine V_goto X 34 dX7_inputAt_10 (by decide) ?_
    refine V_callV_I X (na := 1) (ci := 7) (b0 := 89) (by decide) (rfl) (by decide) rfl (m_X7_fails g l hl9 σ hR 1 ⟨by decide, by decide⟩) gX7_inputAt_X7_fails rfl rfl rfl (by decide +kernel) ⟨Nat.le_of_ble_eq_true rfl, Nat.le_of_ble_eq_true rfl⟩ rfl rfl (Nat.le_of_ble_eq_true rfl) ⟨Nat.le_of_ble_eq_true rfl, Nat.le_of_ble_eq_true rfl⟩ dX7_inputAt_34 (fun z17 u18 z17r hp19 => ?_)
    obtain ⟨hz9, hu20⟩ := hp19
    have hu20 := hu20.symm
    subst hu20
    rw [if_pos (by decide)] at hz9
    subst hz9
    refine V_if_eq X 45 ⟨by decide, by decide⟩ dX7_inputAt_37 (by decide) (fun h => absurd h (by first | decide | omega)) (fun _ => ?_)
    refine V_bipush X (by decide) dX7_inputAt_40 ?_
    refine V_goto X 56 dX7_inputAt_42 (by decide) ?_
    exact V_iret X hr (iN_char (by omega) (by omega)).1 ⟨by decide, by decide⟩ (by exact Or.inr (Or.inl ⟨hL, rfl⟩)) dX7_inputAt_56 (by decide) (by decide)
