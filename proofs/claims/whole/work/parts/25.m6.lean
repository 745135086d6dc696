/-! ===== the season ===== -/
noncomputable def ahI (cnt : Nat → Int) (n : Nat) (a b : Int) : Int := @ite Int (ahd cnt n a b) (Classical.propDecidable _) 1 0
theorem ahI_y {cnt : Nat → Int} {n : Nat} {a b : Int} (h : ahd cnt n a b) : ahI cnt n a b = 1 := by unfold ahI; exact if_pos h
theorem ahI_n {cnt : Nat → Int} {n : Nat} {a b : Int} (h : ¬ ahd cnt n a b) : ahI cnt n a b = 0 := by unfold ahI; exact if_neg h
theorem ahI_b {cnt : Nat → Int} {n : Nat} {a b : Int} : 0 ≤ ahI cnt n a b ∧ ahI cnt n a b ≤ 1 := by
  rcases Classical.em (ahd cnt n a b) with h | h
  · rw [ahI_y h]; omega
  · rw [ahI_n h]; omega
theorem sumF_b {f : Nat → Int} {c : Int} (hf : ∀ l, 0 ≤ f l ∧ f l ≤ c) : ∀ i : Nat, 0 ≤ sumF f i ∧ sumF f i ≤ c * i := by
  intro i
  induction i with
  | zero => simp [sumF]
  | succ i ih =>
    have := hf i
    rw [sumF]
    refine ⟨by omega, ?_⟩
    rw [show ((i + 1 : Nat) : Int) = (i : Int) + 1 by omega, Int.mul_add]
    omega
/-- nothing but the season's scratch rows has changed -/
def FrS (σ u : St) : Prop := (∀ a, (a < 69 ∨ 72 < a) → u.1 a = σ.1 a) ∧ u.2 = σ.2 ∧ RG u
theorem FrS.rf {σ : St} (h : RG σ) : FrS σ σ := ⟨fun _ _ => rfl, rfl, h⟩
theorem FrS.sw {σ u : St} (h : FrS σ u) (a k : Nat) (ha : 69 ≤ a ∧ a ≤ 72) {v : Int} (hv : R32 v) : FrS σ (sw u a k v) := ⟨fun b hb => by rw [sw_ne (by omega)]; exact h.1 b hb, h.2.1, h.2.2.sw a k hv⟩
theorem FrS.tr {σ u v : St} (h : FrS σ u) (h2 : FrS u v) : FrS σ v := ⟨fun a ha => (h2.1 a ha).trans (h.1 a ha), h2.2.1.trans h.2.1, h2.2.2⟩
theorem FrS.LB {σ u : St} {n : Nat} (f : FrS σ u) (h : LB σ n) : LB u n := ⟨by rw [f.1 5 (by omega)]; exact h.1, h.2.1, fun l hl => by have := h.2.1; rw [f.1 (7 + 2 * l) (by omega)]; exact h.2.2 l hl⟩
theorem LB.row {σ : St} {n l : Nat} (h : LB σ n) (hl : l < n) : 7 + 2 * l < 69 := by have := h.2.1; omega
def lapF (σ : St) (n : Nat) (r : Int) (d : Nat) (m : Nat) : Int := bestF (fun l => decide ((¬ σ.1 (7 + 2 * l) 9 = 0 ∧ σ.1 (7 + 2 * l) 7 = r) ∧ σ.1 (7 + 2 * l) 3 = (d : Int))) (cntC σ) m
theorem bestF_congr {s1 s2 : Nat → Bool} {c1 c2 : Nat → Int} : ∀ m, (∀ l, l < m → s1 l = s2 l ∧ c1 l = c2 l) → bestF s1 c1 m = bestF s2 c2 m := by
  intro m
  induction m with
  | zero => intro _; rfl
  | succ m ih =>
    intro h
    have e := ih (fun l hl => h l (by omega))
    have hb := bestF_b (sel := s2) (cnt := c2) m
    rw [bestF, bestF, e, (h m (by omega)).1, (h m (by omega)).2]
    by_cases q : bestF s2 c2 m = -1
    · rw [q]; simp
    · rw [(h (bestF s2 c2 m).toNat (by omega)).2]
theorem ahd_congr {c1 c2 : Nat → Int} {n : Nat} {a b : Int} (h : ∀ l, l < n → c1 l = c2 l) : ahd c1 n a b ↔ ahd c2 n a b := by
  unfold ahd
  by_cases ha : 0 ≤ a ∧ a < n
  · by_cases hb : 0 ≤ b ∧ b < n
    · rw [h a.toNat (by omega), h b.toNat (by omega)]
    · simp [ha, hb]
  · simp [ha]
theorem ahI_congr {c1 c2 : Nat → Int} {n : Nat} {a b : Int} (h : ∀ l, l < n → c1 l = c2 l) : ahI c1 n a b = ahI c2 n a b := by
  rcases Classical.em (ahd c1 n a b) with q | q
  · rw [ahI_y q, ahI_y ((ahd_congr h).mp q)]
  · rw [ahI_n q, ahI_n (fun z => q ((ahd_congr h).mpr z))]
theorem FrS.cnt {σ u : St} {n : Nat} (f : FrS σ u) (h : n ≤ 30) : ∀ l, l < n → cntC u l = cntC σ l := fun l hl => by unfold cntC; rw [f.1 (7 + 2 * l) (by omega)]
def FLp (σ : St) (n : Nat) (r : Int) (m : Nat) (u : St) : Prop := FrS σ u ∧ (∀ a, a ≠ 69 → u.1 a = σ.1 a) ∧ ∀ d, d < 6 → u.1 69 d = lapF σ n r d m
theorem fl_b2 {σ : St} {n : Nat} {r : Int} {d m : Nat} : -1 ≤ lapF σ n r d m ∧ lapF σ n r d m < m := bestF_b m
/-- the step of the walk that fills the row of laps -/
theorem fL_no {σ u : St} {n i : Nat} {r : Int} (hv : FLp σ n r i u) (h : ¬ ((¬ σ.1 (7 + 2 * i) 9 = 0 ∧ σ.1 (7 + 2 * i) 7 = r))) : FLp σ n r (i + 1) u :=
  ⟨hv.1, hv.2.1, fun d hd => by
    rw [hv.2.2 d hd]
    exact best_0 (by simp; intro a b; exact absurd ⟨a, b⟩ h)⟩
theorem fL_nah {σ u : St} {n i dn : Nat} {r : Int} (hv : FLp σ n r i u) (hin : i < n) (hdr : σ.1 (7 + 2 * i) 3 = (dn : Int)) (hd6 : dn < 6) (ha : ¬ ahd (cntC σ) n (i : Int) (u.1 69 dn)) : FLp σ n r (i + 1) u :=
  ⟨hv.1, hv.2.1, fun d hd => by
    rw [hv.2.2 d hd]
    by_cases e : d = dn
    · subst e
      rw [hv.2.2 d hd] at ha
      exact best_n ha hin
    · exact best_0 (by simp; intro a b; rw [hdr]; omega)⟩
theorem fL_ah {σ u : St} {n i dn : Nat} {r : Int} (hv : FLp σ n r i u) (hin : i < n) (hn : n ≤ 30) (hs : ¬ σ.1 (7 + 2 * i) 9 = 0 ∧ σ.1 (7 + 2 * i) 7 = r) (hdr : σ.1 (7 + 2 * i) 3 = (dn : Int)) (hd6 : dn < 6) (ha : ahd (cntC σ) n (i : Int) (u.1 69 dn)) : FLp σ n r (i + 1) (sw u 69 dn (i : Int)) := by
  refine ⟨hv.1.sw 69 dn (by omega) ⟨by omega, by omega⟩, fun a h => by rw [sw_ne h]; exact hv.2.1 a h, fun d hd => ?_⟩
  by_cases e : d = dn
  · subst e
    rw [rd_s]
    rw [hv.2.2 d hd] at ha
    exact best_y (by simp [hs, hdr]) ha hin
  · rw [rd_k e, hv.2.2 d hd]
    exact best_0 (by simp; intro a b; rw [hdr]; omega)
def amG (a : Nat → Int) : Nat → Nat
  | 0 => 0
  | k + 1 => if a k < a (amG a k) then k else amG a k
theorem amG_lt {a : Nat → Int} : ∀ k, amG a (k + 1) < k + 1 := by
  intro k
  induction k with
  | zero => rw [amG]; split <;> simp [amG]
  | succ k ih => rw [amG]; split <;> omega
theorem amG_1 {a : Nat → Int} : amG a 1 = 0 := by have h : amG a 1 < 1 := amG_lt 0; omega
def ptF (A : Int) : Int := if A < 6 then worthP A.toNat else 0
theorem worthP_b (j : Nat) : 0 ≤ worthP j ∧ worthP j ≤ 10 := by unfold worthP; (repeat' split) <;> omega
/-- what scoring a driver in a round leaves: its score s, whether it is a win w -/
def ScP (σ : St) (r d : Nat) (s w : Int) (u : St) : Prop := FrS σ u ∧ u.1 69 = σ.1 69 ∧ (∀ k, u.1 70 k = if k = 10 * d + r then s else σ.1 70 k) ∧ (∀ k, u.1 71 k = if k = d then σ.1 71 d + s else σ.1 71 k) ∧ ∀ k, u.1 72 k = if k = d then σ.1 72 d + w else σ.1 72 k
noncomputable def plA (σ : St) (n : Nat) (d : Nat) : Int := sumF (fun o => ahI (cntC σ) n (σ.1 69 o) (σ.1 69 d)) 6
theorem sc_0 {σ : St} {r d : Nat} (hR : RG σ) (h71 : 0 ≤ σ.1 71 d ∧ σ.1 71 d ≤ 100000) : ScP σ r d 0 0 (sw (sw σ 70 (10 * d + r) 0) 71 d (σ.1 71 d + 0)) := by
  refine ⟨((FrS.rf hR).sw _ _ (by omega) ⟨by decide, by decide⟩).sw _ _ (by omega) ⟨by omega, by omega⟩, ?_, fun k => ?_, fun k => ?_, fun k => ?_⟩
  · rw [sw_ne (by decide), sw_ne (by decide)]
  · rw [rd_n (by decide), sw_get]; simp
  · rw [sw_get, rd_n (by decide)]; simp
  · rw [rd_n (by decide), rd_n (by decide)]; split <;> simp_all
theorem sc_1 {σ : St} {r d : Nat} {s w : Int} (hR : RG σ) (h71 : 0 ≤ σ.1 71 d ∧ σ.1 71 d ≤ 100000) (h72 : 0 ≤ σ.1 72 d ∧ σ.1 72 d ≤ 100000) (hs : 0 ≤ s ∧ s ≤ 10) (hw : 0 ≤ w ∧ w ≤ 1) : ScP σ r d s w (sw (sw (sw σ 72 d (σ.1 72 d + w)) 70 (10 * d + r) s) 71 d (σ.1 71 d + s)) := by
  refine ⟨(((FrS.rf hR).sw _ _ (by omega) ⟨by omega, by omega⟩).sw _ _ (by omega) ⟨by omega, by omega⟩).sw _ _ (by omega) ⟨by omega, by omega⟩, ?_, fun k => ?_, fun k => ?_, fun k => ?_⟩
  · rw [sw_ne (by decide), sw_ne (by decide), sw_ne (by decide)]
  · rw [rd_n (by decide), sw_get, rd_n (by decide)]; simp
  · rw [sw_get, rd_n (by decide), rd_n (by decide)]; simp
  · rw [rd_n (by decide), rd_n (by decide), sw_get]; simp
def asP (pts won : Nat → Int) (a b : Nat) : Prop := pts b < pts a ∨ (pts a = pts b ∧ (won b < won a ∨ (won a = won b ∧ a < b)))
noncomputable def asI (pts won : Nat → Int) (a b : Nat) : Int := @ite Int (asP pts won a b) (Classical.propDecidable _) 1 0
theorem asI_y {p w : Nat → Int} {a b : Nat} (h : asP p w a b) : asI p w a b = 1 := by unfold asI; exact if_pos h
theorem asI_n {p w : Nat → Int} {a b : Nat} (h : ¬ asP p w a b) : asI p w a b = 0 := by unfold asI; exact if_neg h
theorem asI_b {p w : Nat → Int} {a b : Nat} : 0 ≤ asI p w a b ∧ asI p w a b ≤ 1 := by
  rcases Classical.em (asP p w a b) with h | h
  · rw [asI_y h]; omega
  · rw [asI_n h]; omega
theorem m1_step {u : St} {i : Nat} (h : ∀ d, d < i → u.1 69 d = -1) : ∀ d, d < i + 1 → (sw u 69 i (-1)).1 69 d = -1 := by
  intro d hd
  by_cases e : d = i
  · rw [e, rd_s]
  · rw [rd_k e]; exact h d (by omega)
noncomputable def dbF (p w : Nat → Int) (pl : Int) : Nat → Int
  | 0 => 0
  | d + 1 => if sumF (fun o => asI p w o d) 6 = pl then (d : Int) else dbF p w pl d

theorem dbF_b {p w : Nat → Int} {pl : Int} : ∀ d : Nat, 0 ≤ dbF p w pl d ∧ dbF p w pl d ≤ d := by
  intro d
  induction d with
  | zero => simp [dbF]
  | succ d ih =>
    rw [dbF]
    rcases Classical.em (sumF (fun o => asI p w o d) 6 = pl) with h | h
    · rw [if_pos h]; omega
    · rw [if_neg h]; omega

set_option maxRecDepth 100000 in
set_option maxHeartbeats 4000000 in
theorem m_X4_openOn (g : Geo) (l : Launch) (hl9 : l.stackTraces = false) (σ : St) (hR : RG σ) (tr : Int) (r : Nat) (hr1 : σ.1 67 1 = (r : Int)) (hr10 : r < 10) : Met l yX4_openOn wsX4_openOn ({ frames := 0, cells := 0, slots := 0, locals := 0 }) (va_Pc [.ref (ga g (67)), .int (iN (tr))] (World g σ)) (QV g (fun u => u = sw (sw (sw σ 68 r tr) 67 2 (σ.1 67 1)) 67 1 (σ.1 67 1 + 1))) 0 0 (gA g) := by
  refine V_met hl9 (by decide) rfl (Nat.le_of_ble_eq_true rfl) ?_
  intro p9 e9 s9 m9 b9 t9 c9 X hr _
  refine V_lv (lv' := [(0, .ref (ga g (67))), (1, .int (iN (tr)))]) rfl ?_
  refine V_aload_n X 0 rfl dX4_openOn_0 rfl ?_
  refine V_get X (ci := 4) (67) (by decide) (rfl) (by decide) rfl (fun _ h => List.mem_cons_of_mem _ (List.mem_append_right _ h)) 1 (by decide) (List.mem_of_getElem? (i := 1) rfl) rfl rfl dX4_openOn_1 ?_
  refine V_bipush X (by decide) dX4_openOn_4 ?_
  refine V_icmp_ge X 37 (hR _ _) ⟨by decide, by decide⟩ dX4_openOn_6 (by decide) (fun h => absurd h (by omega)) (fun _ => ?_)
  refine V_aload_n X 0 rfl dX4_openOn_9 rfl ?_
  refine V_get X (ci := 4) (67) (by decide) (rfl) (by decide) rfl (fun _ h => List.mem_cons_of_mem _ (List.mem_append_right _ h)) 0 (by decide) (List.mem_of_getElem? (i := 2) rfl) rfl rfl dX4_openOn_10 ?_
  refine V_aload_n X 0 rfl dX4_openOn_13 rfl ?_
  refine V_get X (ci := 4) (67) (by decide) (rfl) (by decide) rfl (fun _ h => List.mem_cons_of_mem _ (List.mem_append_right _ h)) 1 (by decide) (List.mem_of_getElem? (i := 1) rfl) rfl rfl dX4_openOn_14 ?_
  refine V_iload_n X 1 rfl dX4_openOn_17 rfl ?_
  refine V_iast X (N := 10) (68) (by decide) (rfl) (rfl) (by decide) (r) (hr1) (hr10) dX4_openOn_18 ?_
  refine V_aload_n X 0 rfl dX4_openOn_19 rfl ?_
  refine V_aload_n X 0 rfl dX4_openOn_20 rfl ?_
  refine V_get X (ci := 4) (67) (by decide) (rfl) (by decide) rfl (fun _ h => List.mem_cons_of_mem _ (List.mem_append_right _ h)) 1 (by decide) (List.mem_of_getElem? (i := 1) rfl) rfl rfl dX4_openOn_21 ?_
  refine V_top (b := σ.1 67 1) (rd_n (by decide)) ?_
  refine V_put X (ci := 4) (67) (by decide) (rfl) (by decide) rfl (fun _ h => List.mem_cons_of_mem _ (List.mem_append_right _ h)) 2 (by decide) (List.mem_of_getElem? (i := 3) rfl) rfl tyX4 tyX4_ok nmX4 rfl rfl rfl rfl rfl (Nat.le_of_ble_eq_true rfl) dX4_openOn_24 ?_
  refine V_aload_n X 0 rfl dX4_openOn_27 rfl ?_
  refine V_dup X rfl dX4_openOn_28 ?_
  refine V_get X (ci := 4) (67) (by decide) (rfl) (by decide) rfl (fun _ h => List.mem_cons_of_mem _ (List.mem_append_right _ h)) 1 (by decide) (List.mem_of_getElem? (i := 1) rfl) rfl rfl dX4_openOn_29 ?_
  refine V_top (b := σ.1 67 1) (Eq.trans (rd_k (by decide)) (rd_n (by decide))) ?_
  refine V_iconst X dX4_openOn_32 ?_
  refine V_iadd X dX4_openOn_33 ?_
  refine V_put X (ci := 4) (67) (by decide) (rfl) (by decide) rfl (fun _ h => List.mem_cons_of_mem _ (List.mem_append_right _ h)) 1 (by decide) (List.mem_of_getElem? (i := 1) rfl) rfl tyX4 tyX4_ok nmX4 rfl rfl rfl rfl rfl (Nat.le_of_ble_eq_true rfl) dX4_openOn_34 ?_
  exact V_vret X hr (by exact rfl) dX4_openOn_37 (by decide) (by decide)
set_option maxRecDepth 100000 in
set_option maxHeartbeats 4000000 in
theorem m_X4_roundOn (g : Geo) (l : Launch) (hl9 : l.stackTraces = false) (σ : St) (hR : RG σ) (tr : Int) (htr : R32 tr) (h10 : σ.1 67 1 ≤ 10) : Met l yX4_roundOn wsX4_roundOn ({ frames := 0, cells := 0, slots := 0, locals := 0 }) (va_Pc [.ref (ga g (67)), .int (iN (tr))] (World g σ)) (QI g (fun z u => z = (if (0 ≤ σ.1 67 2 ∧ σ.1 67 2 < σ.1 67 1) ∧ σ.1 68 (σ.1 67 2).toNat = tr then σ.1 67 2 else -1) ∧ u = σ)) 0 0 (gA g) := by
  refine V_met hl9 (by decide) rfl (Nat.le_of_ble_eq_true rfl) ?_
  intro p9 e9 s9 m9 b9 t9 c9 X hr _
  refine V_lv (lv' := [(0, .ref (ga g (67))), (1, .int (iN (tr)))]) rfl ?_
  refine V_aload_n X 0 rfl dX4_roundOn_0 rfl ?_
  refine V_get X (ci := 4) (67) (by decide) (rfl) (by decide) rfl (fun _ h => List.mem_cons_of_mem _ (List.mem_append_right _ h)) 2 (by decide) (List.mem_of_getElem? (i := 1) rfl) rfl rfl dX4_roundOn_1 ?_
  refine V_if_lt X 38 (hR _ _) dX4_roundOn_4 (by decide) (fun q1 => ?_) (fun q1 => ?_)
  · skip
    refine V_iconst X dX4_roundOn_38 ?_
    exact V_iret X hr rfl ⟨by decide, by decide⟩ (by exact ⟨by rw [if_neg (by omega)], rfl⟩) dX4_roundOn_39 (by decide) (by decide)
  · skip
    refine V_aload_n X 0 rfl dX4_roundOn_7 rfl ?_
    refine V_get X (ci := 4) (67) (by decide) (rfl) (by decide) rfl (fun _ h => List.mem_cons_of_mem _ (List.mem_append_right _ h)) 2 (by decide) (List.mem_of_getElem? (i := 1) rfl) rfl rfl dX4_roundOn_8 ?_
    refine V_aload_n X 0 rfl dX4_roundOn_11 rfl ?_
    refine V_get X (ci := 4) (67) (by decide) (rfl) (by decide) rfl (fun _ h => List.mem_cons_of_mem _ (List.mem_append_right _ h)) 1 (by decide) (List.mem_of_getElem? (i := 2) rfl) rfl rfl dX4_roundOn_12 ?_
    refine V_icmp_ge X 38 (hR _ _) (hR _ _) dX4_roundOn_15 (by decide) (fun q2 => ?_) (fun q2 => ?_)
    · skip
      refine V_iconst X dX4_roundOn_38 ?_
      exact V_iret X hr rfl ⟨by decide, by decide⟩ (by exact ⟨by rw [if_neg (by omega)], rfl⟩) dX4_roundOn_39 (by decide) (by decide)
    · skip
      refine V_aload_n X 0 rfl dX4_roundOn_18 rfl ?_
      refine V_get X (ci := 4) (67) (by decide) (rfl) (by decide) rfl (fun _ h => List.mem_cons_of_mem _ (List.mem_append_right _ h)) 0 (by decide) (List.mem_of_getElem? (i := 3) rfl) rfl rfl dX4_roundOn_19 ?_
      refine V_aload_n X 0 rfl dX4_roundOn_22 rfl ?_
      refine V_get X (ci := 4) (67) (by decide) (rfl) (by decide) rfl (fun _ h => List.mem_cons_of_mem _ (List.mem_append_right _ h)) 2 (by decide) (List.mem_of_getElem? (i := 1) rfl) rfl rfl dX4_roundOn_23 ?_
      refine V_iald X (N := 10) (68) (by decide) (rfl) (rfl) (by decide) ((σ.1 67 2).toNat) (by omega) (by omega) dX4_roundOn_26 ?_
      refine V_iload_n X 1 rfl dX4_roundOn_27 rfl ?_
      refine V_icmp_ne X 38 (hR _ _) htr dX4_roundOn_28 (by decide) (fun q3 => ?_) (fun q3 => ?_)
      · skip
        refine V_iconst X dX4_roundOn_38 ?_
        exact V_iret X hr rfl ⟨by decide, by decide⟩ (by exact ⟨by rw [if_neg (by omega)], rfl⟩) dX4_roundOn_39 (by decide) (by decide)
      · skip
        refine V_aload_n X 0 rfl dX4_roundOn_31 rfl ?_
        refine V_get X (ci := 4) (67) (by decide) (rfl) (by decide) rfl (fun _ h => List.mem_cons_of_mem _ (List.mem_append_right _ h)) 2 (by decide) (List.mem_of_getElem? (i := 1) rfl) rfl rfl dX4_roundOn_32 ?_
        refine V_goto X 39 dX4_roundOn_35 (by decide) ?_
        exact V_iret X hr rfl (hR _ _) (by exact ⟨by rw [if_pos (by omega)], rfl⟩) dX4_roundOn_39 (by decide) (by decide)
set_option maxRecDepth 100000 in
set_option maxHeartbeats 4000000 in
theorem m_X4_findLaps (g : Geo) (l : Launch) (hl9 : l.stackTraces = false) (σ : St) (hR : RG σ) (n : Nat) (hLB : LB σ n) (r : Int) (hrr : R32 r) : Met l yX4_findLaps wsX4_findLaps ({ frames := 2, cells := 0, slots := 0, locals := 45 }) (va_Pc [.ref (ga g (67)), .ref (ga g (5)), .int (iN (r))] (World g σ)) (QV g (fun u => FLp σ n r n u)) 0 0 (gA g) := by
  refine V_met hl9 (by decide) rfl (Nat.le_of_ble_eq_true rfl) ?_
  intro p9 e9 s9 m9 b9 t9 c9 X hr _
  have hn := hLB.1
  have hn30 := hLB.2.1
  refine V_lv (lv' := [(0, .ref (ga g (67))), (1, .ref (ga g (5))), (2, .int (iN (r)))]) rfl ?_
  refine V_iconst X dX4_findLaps_0 ?_
  refine V_istore_n X [(3, .int (iN (0))), (0, .ref (ga g (67))), (1, .ref (ga g (5))), (2, .int (iN (r)))] dX4_findLaps_1 rfl (by decide) rfl ?_
  refine V_sub (lv' := [(0, .ref (ga g (67))), (1, .ref (ga g (5))), (2, .int (iN (r))), (3, .int (iN (0)))]) [1, 2, 3, 0] rfl ?_
  refine V_up (N := 6) (fun (i : Nat) (u : St) (lw : List (Nat × Value)) => True ∧ [(0, .ref (ga g (67))), (1, .ref (ga g (5))), (2, .int (iN (r))), (3, .int (iN (((i : Nat) : Int))))] = lw ∧ (FrS σ u ∧ (∀ a, a ≠ 69 → u.1 a = σ.1 a) ∧ ∀ d, d < i → u.1 69 d = -1)) (i0 := 0) (Nat.zero_le _) ⟨trivial, rfl, ⟨FrS.rf hR, fun _ _ => rfl, fun d hd => absurd hd (by omega)⟩⟩ ?_ ?_
  · skip
    rintro u1 _ ⟨-, rfl, hv⟩
    refine V_iload_n X 3 rfl dX4_findLaps_2 rfl ?_
    refine V_bipush X (by decide) dX4_findLaps_3 ?_
    refine V_icmp_ge X 21 ⟨by omega, by omega⟩ ⟨by decide, by decide⟩ dX4_findLaps_5 (by decide) (fun _ => ?_) (fun h => absurd h (by decide))
    refine V_iconst X dX4_findLaps_21 ?_
    refine V_istore_n X [(3, .int (iN (0))), (0, .ref (ga g (67))), (1, .ref (ga g (5))), (2, .int (iN (r)))] dX4_findLaps_22 rfl (by decide) rfl ?_
    refine V_sub (lv' := [(0, .ref (ga g (67))), (1, .ref (ga g (5))), (2, .int (iN (r))), (3, .int (iN (0)))]) [1, 2, 3, 0] rfl ?_
    refine V_up (N := n) (fun (i : Nat) (u : St) (lw : List (Nat × Value)) => True ∧ [(0, .ref (ga g (67))), (1, .ref (ga g (5))), (2, .int (iN (r))), (3, .int (iN (((i : Nat) : Int))))] = lw ∧ (FLp σ n r i u)) (i0 := 0) (Nat.zero_le _) ⟨trivial, rfl, ⟨hv.1, hv.2.1, fun d hd => hv.2.2 d hd⟩⟩ ?_ ?_
    · skip
      rintro u1 _ ⟨-, rfl, hv⟩
      refine V_iload_n X 3 rfl dX4_findLaps_23 rfl ?_
      refine V_aload_n X 1 rfl dX4_findLaps_24 rfl ?_
      refine V_get X (ci := 0) (5) (by decide) (rfl) (by decide) rfl (fun _ h => List.mem_cons_of_mem _ (List.mem_append_left _ (List.mem_append_right _ h))) 1 (by decide) (List.mem_of_getElem? (i := 2) rfl) rfl rfl dX4_findLaps_25 ?_
      refine V_top (b := σ.1 5 1) (by rw [hv.2.1 5 (by decide)]) ?_
      refine V_icmp_ge X 91 ⟨by omega, by omega⟩ (hR _ _) dX4_findLaps_28 (by decide) (fun _ => ?_) (fun h => absurd h (by omega))
      exact V_vret X hr (by exact hv) dX4_findLaps_91 (by decide) (by decide)
    · skip
      rintro i u1 _ hiN ⟨-, rfl, hv⟩ kk
      refine V_iload_n X 3 rfl dX4_findLaps_23 rfl ?_
      refine V_aload_n X 1 rfl dX4_findLaps_24 rfl ?_
      refine V_get X (ci := 0) (5) (by decide) (rfl) (by decide) rfl (fun _ h => List.mem_cons_of_mem _ (List.mem_append_left _ (List.mem_append_right _ h))) 1 (by decide) (List.mem_of_getElem? (i := 2) rfl) rfl rfl dX4_findLaps_25 ?_
      refine V_top (b := σ.1 5 1) (by rw [hv.2.1 5 (by decide)]) ?_
      refine V_icmp_ge X 91 ⟨by omega, by omega⟩ (hR _ _) dX4_findLaps_28 (by decide) (fun h => absurd h (by omega)) (fun _ => ?_)
      refine V_aload_n X 1 rfl dX4_findLaps_31 rfl ?_
      refine V_get X (ci := 0) (5) (by decide) (rfl) (by decide) rfl (fun _ h => List.mem_cons_of_mem _ (List.mem_append_left _ (List.mem_append_right _ h))) 0 (by decide) (List.mem_of_getElem? (i := 3) rfl) rfl rfl dX4_findLaps_32 ?_
      refine V_iload_n X 3 rfl dX4_findLaps_35 rfl ?_
      refine V_aald16 X (6) (by decide) (rfl) (i) (rfl) (by omega) dX4_findLaps_36 ?_
      refine V_astore X [(4, .ref (ga g (7 + 2 * i))), (0, .ref (ga g (67))), (1, .ref (ga g (5))), (2, .int (iN (r))), (3, .int (iN (((i : Nat) : Int))))] dX4_findLaps_37 (by decide) rfl ?_
      refine V_aload X 0 rfl dX4_findLaps_39 ?_
      refine V_get X (ci := 2) (7 + 2 * i) (by omega) (kd_lap (by omega)) (by decide) rfl (fun _ h => List.mem_cons_of_mem _ (List.mem_append_right _ h)) 9 (by decide) (List.mem_of_getElem? (i := 4) rfl) rfl rfl dX4_findLaps_41 ?_
      refine V_top (b := σ.1 (7 + 2 * i) 9) (by rw [hv.2.1 _ (by omega)]) ?_
      refine V_if_eq X 85 (hR _ _) dX4_findLaps_44 (by decide) (fun q1 => ?_) (fun q1 => ?_)
      · skip
        refine V_iinc X [(3, .int (iN (((i : Nat) : Int) + 1))), (4, .ref (ga g (7 + 2 * i))), (0, .ref (ga g (67))), (1, .ref (ga g (5))), (2, .int (iN (r)))] 4 (((i : Nat) : Int) + 1) (rfl) rfl dX4_findLaps_85 (by decide) rfl ?_
        refine V_goto X 23 dX4_findLaps_88 (by decide) ?_
        refine V_sub (lv' := [(0, .ref (ga g (67))), (1, .ref (ga g (5))), (2, .int (iN (r))), (3, .int (iN (((i : Nat) : Int) + 1)))]) [2, 3, 4, 0] rfl ?_
        refine V_lv (congrArg (fun q : Int => ([(0, .ref (ga g (67))), (1, .ref (ga g (5))), (2, .int (iN (r))), (3, .int (iN q))] : List (Nat × Value))) (show ((i : Nat) : Int) + 1 = (((i + 1) : Nat) : Int) from by omega)) ?_
        exact kk _ _ ⟨trivial, rfl, fL_no hv (by omega)⟩
      · skip
        refine V_aload X 0 rfl dX4_findLaps_47 ?_
        refine V_get X (ci := 2) (7 + 2 * i) (by omega) (kd_lap (by omega)) (by decide) rfl (fun _ h => List.mem_cons_of_mem _ (List.mem_append_right _ h)) 7 (by decide) (List.mem_of_getElem? (i := 5) rfl) rfl rfl dX4_findLaps_49 ?_
        refine V_top (b := σ.1 (7 + 2 * i) 7) (by rw [hv.2.1 _ (by omega)]) ?_
        refine V_iload_n X 3 rfl dX4_findLaps_52 rfl ?_
        refine V_icmp_ne X 85 (hR _ _) hrr dX4_findLaps_53 (by decide) (fun q2 => ?_) (fun q2 => ?_)
        · skip
          refine V_iinc X [(3, .int (iN (((i : Nat) : Int) + 1))), (4, .ref (ga g (7 + 2 * i))), (0, .ref (ga g (67))), (1, .ref (ga g (5))), (2, .int (iN (r)))] 4 (((i : Nat) : Int) + 1) (rfl) rfl dX4_findLaps_85 (by decide) rfl ?_
          refine V_goto X 23 dX4_findLaps_88 (by decide) ?_
          refine V_sub (lv' := [(0, .ref (ga g (67))), (1, .ref (ga g (5))), (2, .int (iN (r))), (3, .int (iN (((i : Nat) : Int) + 1)))]) [2, 3, 4, 0] rfl ?_
          refine V_lv (congrArg (fun q : Int => ([(0, .ref (ga g (67))), (1, .ref (ga g (5))), (2, .int (iN (r))), (3, .int (iN q))] : List (Nat × Value))) (show ((i : Nat) : Int) + 1 = (((i + 1) : Nat) : Int) from by omega)) ?_
          exact kk _ _ ⟨trivial, rfl, fL_no hv (by omega)⟩
        · skip
          have hrow := hLB.2.2 i hiN
          obtain ⟨dn, hdn, hd6⟩ : ∃ dn : Nat, σ.1 (7 + 2 * i) 3 = (dn : Int) ∧ dn < 6 := ⟨(σ.1 (7 + 2 * i) 3).toNat, by have := hrow.2.2.2.2.2.2.2.2.2.1; omega, by have := hrow.2.2.2.2.2.2.2.2.2; omega⟩
          have hss : ¬ σ.1 (7 + 2 * i) 9 = 0 ∧ σ.1 (7 + 2 * i) 7 = r := ⟨by omega, by omega⟩
          refine V_aload_n X 2 rfl dX4_findLaps_56 rfl ?_
          refine V_iload_n X 4 rfl dX4_findLaps_57 rfl ?_
          refine V_aload_n X 1 rfl dX4_findLaps_58 rfl ?_
          refine V_get X (ci := 4) (67) (by decide) (rfl) (by decide) rfl (fun _ h => List.mem_cons_of_mem _ (List.mem_append_left _ (List.mem_append_left _ (List.mem_append_right _ h)))) 4 (by decide) (List.mem_of_getElem? (i := 1) rfl) rfl rfl dX4_findLaps_59 ?_
          refine V_aload X 0 rfl dX4_findLaps_62 ?_
          refine V_get X (ci := 2) (7 + 2 * i) (by omega) (kd_lap (by omega)) (by decide) rfl (fun _ h => List.mem_cons_of_mem _ (List.mem_append_right _ h)) 3 (by decide) (List.mem_of_getElem? (i := 6) rfl) rfl rfl dX4_findLaps_64 ?_
          refine V_top (b := σ.1 (7 + 2 * i) 3) (by rw [hv.2.1 _ (by omega)]) ?_
          refine V_iald X (N := 6) (69) (by decide) (rfl) (rfl) (by decide) (dn) (hdn) (hd6) dX4_findLaps_67 ?_
          refine V_callV_I X (na := 2) (ci := 0) (b0 := 5) (by decide) (rfl) (by decide) rfl (m_X0_isAhead g l hl9 u1 hv.1.2.2 n (hv.1.LB hLB) (i : Int) (u1.1 69 dn) ⟨by omega, by omega⟩ (hv.1.2.2 _ _)) gX4_findLaps_X0_isAhead rfl rfl rfl (by decide +kernel) ⟨Nat.le_of_ble_eq_true rfl, Nat.le_of_ble_eq_true rfl⟩ rfl rfl (Nat.le_of_ble_eq_true rfl) ⟨Nat.le_of_ble_eq_true rfl, Nat.le_of_ble_eq_true rfl⟩ dX4_findLaps_68 (fun z3 u4 z3r hp5 => ?_)
          obtain ⟨hz9, hu6⟩ := hp5
          have hu6 := hu6.symm
          subst hu6
          rcases Classical.em (ahd (cntC σ) n ((i : Nat) : Int) (u1.1 69 dn)) with hhs | hhs
          · skip
            rw [if_pos ((ahd_congr (hv.1.cnt hn30)).mpr hhs)] at hz9
            subst hz9
            refine V_if_eq X 85 ⟨by decide, by decide⟩ dX4_findLaps_71 (by decide) (fun h => absurd h (by first | decide | omega)) (fun _ => ?_)
            refine V_aload_n X 1 rfl dX4_findLaps_74 rfl ?_
            refine V_get X (ci := 4) (67) (by decide) (rfl) (by decide) rfl (fun _ h => List.mem_cons_of_mem _ (List.mem_append_left _ (List.mem_append_left _ (List.mem_append_right _ h)))) 4 (by decide) (List.mem_of_getElem? (i := 1) rfl) rfl rfl dX4_findLaps_75 ?_
            refine V_aload X 0 rfl dX4_findLaps_78 ?_
            refine V_get X (ci := 2) (7 + 2 * i) (by omega) (kd_lap (by omega)) (by decide) rfl (fun _ h => List.mem_cons_of_mem _ (List.mem_append_right _ h)) 3 (by decide) (List.mem_of_getElem? (i := 6) rfl) rfl rfl dX4_findLaps_80 ?_
            refine V_top (b := σ.1 (7 + 2 * i) 3) (by rw [hv.2.1 _ (by omega)]) ?_
            refine V_iload_n X 4 rfl dX4_findLaps_83 rfl ?_
            refine V_iast X (N := 6) (69) (by decide) (rfl) (rfl) (by decide) (dn) (hdn) (hd6) dX4_findLaps_84 ?_
            refine V_iinc X [(3, .int (iN (((i : Nat) : Int) + 1))), (4, .ref (ga g (7 + 2 * i))), (0, .ref (ga g (67))), (1, .ref (ga g (5))), (2, .int (iN (r)))] 4 (((i : Nat) : Int) + 1) (rfl) rfl dX4_findLaps_85 (by decide) rfl ?_
            refine V_goto X 23 dX4_findLaps_88 (by decide) ?_
            refine V_sub (lv' := [(0, .ref (ga g (67))), (1, .ref (ga g (5))), (2, .int (iN (r))), (3, .int (iN (((i : Nat) : Int) + 1)))]) [2, 3, 4, 0] rfl ?_
            refine V_lv (congrArg (fun q : Int => ([(0, .ref (ga g (67))), (1, .ref (ga g (5))), (2, .int (iN (r))), (3, .int (iN q))] : List (Nat × Value))) (show ((i : Nat) : Int) + 1 = (((i + 1) : Nat) : Int) from by omega)) ?_
            exact kk _ _ ⟨trivial, rfl, fL_ah hv hiN hn30 hss hdn hd6 hhs⟩
          · skip
            rw [if_neg (fun q => hhs ((ahd_congr (hv.1.cnt hn30)).mp q))] at hz9
            subst hz9
            refine V_if_eq X 85 ⟨by decide, by decide⟩ dX4_findLaps_71 (by decide) (fun _ => ?_) (fun h => absurd h (by first | decide | omega))
            refine V_iinc X [(3, .int (iN (((i : Nat) : Int) + 1))), (4, .ref (ga g (7 + 2 * i))), (0, .ref (ga g (67))), (1, .ref (ga g (5))), (2, .int (iN (r)))] 4 (((i : Nat) : Int) + 1) (rfl) rfl dX4_findLaps_85 (by decide) rfl ?_
            refine V_goto X 23 dX4_findLaps_88 (by decide) ?_
            refine V_sub (lv' := [(0, .ref (ga g (67))), (1, .ref (ga g (5))), (2, .int (iN (r))), (3, .int (iN (((i : Nat) : Int) + 1)))]) [2, 3, 4, 0] rfl ?_
            refine V_lv (congrArg (fun q : Int => ([(0, .ref (ga g (67))), (1, .ref (ga g (5))), (2, .int (iN (r))), (3, .int (iN q))] : List (Nat × Value))) (show ((i : Nat) : Int) + 1 = (((i + 1) : Nat) : Int) from by omega)) ?_
            exact kk _ _ ⟨trivial, rfl, fL_nah hv hiN hdn hd6 hhs⟩
  · skip
    rintro i u1 _ hiN ⟨-, rfl, hv⟩ kk
    refine V_iload_n X 3 rfl dX4_findLaps_2 rfl ?_
    refine V_bipush X (by decide) dX4_findLaps_3 ?_
    refine V_icmp_ge X 21 ⟨by omega, by omega⟩ ⟨by decide, by decide⟩ dX4_findLaps_5 (by decide) (fun h => absurd h (by omega)) (fun _ => ?_)
    refine V_aload_n X 0 rfl dX4_findLaps_8 rfl ?_
    refine V_get X (ci := 4) (67) (by decide) (rfl) (by decide) rfl (fun _ h => List.mem_cons_of_mem _ (List.mem_append_left _ (List.mem_append_left _ (List.mem_append_right _ h)))) 4 (by decide) (List.mem_of_getElem? (i := 1) rfl) rfl rfl dX4_findLaps_9 ?_
    refine V_iload_n X 3 rfl dX4_findLaps_12 rfl ?_
    refine V_iconst X dX4_findLaps_13 ?_
    refine V_iast X (N := 6) (69) (by decide) (rfl) (rfl) (by decide) (i) (rfl) (by omega) dX4_findLaps_14 ?_
    refine V_iinc X [(3, .int (iN (((i : Nat) : Int) + 1))), (0, .ref (ga g (67))), (1, .ref (ga g (5))), (2, .int (iN (r)))] 3 (((i : Nat) : Int) + 1) (rfl) rfl dX4_findLaps_15 (by decide) rfl ?_
    refine V_goto X 2 dX4_findLaps_18 (by decide) ?_
    refine V_sub (lv' := [(0, .ref (ga g (67))), (1, .ref (ga g (5))), (2, .int (iN (r))), (3, .int (iN (((i : Nat) : Int) + 1)))]) [1, 2, 3, 0] rfl ?_
    refine V_lv (congrArg (fun q : Int => ([(0, .ref (ga g (67))), (1, .ref (ga g (5))), (2, .int (iN (r))), (3, .int (iN q))] : List (Nat × Value))) (show ((i : Nat) : Int) + 1 = (((i + 1) : Nat) : Int) from by omega)) ?_
    exact kk _ _ ⟨trivial, rfl, ⟨hv.1.sw 69 i (by omega) ⟨by decide, by decide⟩, fun a ha => by rw [sw_ne ha]; exact hv.2.1 a ha, m1_step hv.2.2⟩⟩
set_option maxRecDepth 100000 in
set_option maxHeartbeats 4000000 in
theorem m_X4_lapsAhead (g : Geo) (l : Launch) (hl9 : l.stackTraces = false) (σ : St) (hR : RG σ) (n : Nat) (hLB : LB σ n) (a : Int) (ha : R32 a) : Met l yX4_lapsAhead wsX4_lapsAhead ({ frames := 2, cells := 0, slots := 0, locals := 45 }) (va_Pc [.ref (ga g (67)), .ref (ga g (5)), .int (iN (a))] (World g σ)) (QI g (fun z u => z = sumF (fun o => ahI (cntC σ) n (σ.1 69 o) a) 6 ∧ u = σ)) 0 0 (gA g) := by
  refine V_met hl9 (by decide) rfl (Nat.le_of_ble_eq_true rfl) ?_
  intro p9 e9 s9 m9 b9 t9 c9 X hr _
  refine V_lv (lv' := [(0, .ref (ga g (67))), (1, .ref (ga g (5))), (2, .int (iN (a)))]) rfl ?_
  refine V_iconst X dX4_lapsAhead_0 ?_
  refine V_istore_n X [(3, .int (iN (0))), (0, .ref (ga g (67))), (1, .ref (ga g (5))), (2, .int (iN (a)))] dX4_lapsAhead_1 rfl (by decide) rfl ?_
  refine V_iconst X dX4_lapsAhead_2 ?_
  refine V_istore X [(4, .int (iN (0))), (3, .int (iN (0))), (0, .ref (ga g (67))), (1, .ref (ga g (5))), (2, .int (iN (a)))] dX4_lapsAhead_3 (by decide) rfl ?_
  refine V_sub (lv' := [(0, .ref (ga g (67))), (1, .ref (ga g (5))), (2, .int (iN (a))), (3, .int (iN (0))), (4, .int (iN (0)))]) [2, 3, 4, 1, 0] rfl ?_
  refine V_up (N := 6) (fun (i : Nat) (u : St) (lw : List (Nat × Value)) => σ = u ∧ [(0, .ref (ga g (67))), (1, .ref (ga g (5))), (2, .int (iN (a))), (3, .int (iN (sumF (fun o => ahI (cntC σ) n (σ.1 69 o) a) i))), (4, .int (iN (((i : Nat) : Int))))] = lw ∧ (0 ≤ sumF (fun o => ahI (cntC σ) n (σ.1 69 o) a) i ∧ sumF (fun o => ahI (cntC σ) n (σ.1 69 o) a) i ≤ i)) (i0 := 0) (Nat.zero_le _) ⟨rfl, rfl, ⟨Int.le_refl 0, Int.le_refl 0⟩⟩ ?_ ?_
  · skip
    rintro _ _ ⟨rfl, rfl, hb⟩
    refine V_iload X 4 rfl dX4_lapsAhead_5 ?_
    refine V_bipush X (by decide) dX4_lapsAhead_7 ?_
    refine V_icmp_ge X 36 ⟨by omega, by omega⟩ ⟨by decide, by decide⟩ dX4_lapsAhead_9 (by decide) (fun _ => ?_) (fun h => absurd h (by decide))
    refine V_iload_n X 3 rfl dX4_lapsAhead_36 rfl ?_
    exact V_iret X hr rfl ⟨by omega, by omega⟩ (by exact ⟨rfl, rfl⟩) dX4_lapsAhead_37 (by decide) (by decide)
  · skip
    rintro i _ _ hiN ⟨rfl, rfl, hb⟩ kk
    refine V_iload X 4 rfl dX4_lapsAhead_5 ?_
    refine V_bipush X (by decide) dX4_lapsAhead_7 ?_
    refine V_icmp_ge X 36 ⟨by omega, by omega⟩ ⟨by decide, by decide⟩ dX4_lapsAhead_9 (by decide) (fun h => absurd h (by omega)) (fun _ => ?_)
    refine V_aload_n X 1 rfl dX4_lapsAhead_12 rfl ?_
    refine V_aload_n X 0 rfl dX4_lapsAhead_13 rfl ?_
    refine V_get X (ci := 4) (67) (by decide) (rfl) (by decide) rfl (fun _ h => List.mem_cons_of_mem _ (List.mem_append_left _ (List.mem_append_left _ (List.mem_append_right _ h)))) 4 (by decide) (List.mem_of_getElem? (i := 1) rfl) rfl rfl dX4_lapsAhead_14 ?_
    refine V_iload X 4 rfl dX4_lapsAhead_17 ?_
    refine V_iald X (N := 6) (69) (by decide) (rfl) (rfl) (by decide) (i) (rfl) (by omega) dX4_lapsAhead_19 ?_
    refine V_iload_n X 2 rfl dX4_lapsAhead_20 rfl ?_
    refine V_callV_I X (na := 2) (ci := 0) (b0 := 5) (by decide) (rfl) (by decide) rfl (m_X0_isAhead g l hl9 σ hR n hLB (σ.1 69 i) a (hR _ _) ha) gX4_lapsAhead_X0_isAhead rfl rfl rfl (by decide +kernel) ⟨Nat.le_of_ble_eq_true rfl, Nat.le_of_ble_eq_true rfl⟩ rfl rfl (Nat.le_of_ble_eq_true rfl) ⟨Nat.le_of_ble_eq_true rfl, Nat.le_of_ble_eq_true rfl⟩ dX4_lapsAhead_21 (fun z1 u2 z1r hp3 => ?_)
    obtain ⟨hz9, hu4⟩ := hp3
    have hu4 := hu4.symm
    subst hu4
    rcases Classical.em (ahd (cntC σ) n (σ.1 69 i) a) with hhs | hhs
    · skip
      rw [if_pos hhs] at hz9
      subst hz9
      refine V_if_eq X 30 ⟨by decide, by decide⟩ dX4_lapsAhead_24 (by decide) (fun h => absurd h (by first | decide | omega)) (fun _ => ?_)
      refine V_iinc X [(3, .int (iN (sumF (fun o => ahI (cntC σ) n (σ.1 69 o) a) i + 1))), (0, .ref (ga g (67))), (1, .ref (ga g (5))), (2, .int (iN (a))), (4, .int (iN (((i : Nat) : Int))))] 3 (sumF (fun o => ahI (cntC σ) n (σ.1 69 o) a) i + 1) (rfl) rfl dX4_lapsAhead_27 (by decide) rfl ?_
      refine V_iinc X [(4, .int (iN (((i : Nat) : Int) + 1))), (3, .int (iN (sumF (fun o => ahI (cntC σ) n (σ.1 69 o) a) i + 1))), (0, .ref (ga g (67))), (1, .ref (ga g (5))), (2, .int (iN (a)))] 4 (((i : Nat) : Int) + 1) (rfl) rfl dX4_lapsAhead_30 (by decide) rfl ?_
      refine V_goto X 5 dX4_lapsAhead_33 (by decide) ?_
      refine V_sub (lv' := [(0, .ref (ga g (67))), (1, .ref (ga g (5))), (2, .int (iN (a))), (3, .int (iN (sumF (fun o => ahI (cntC σ) n (σ.1 69 o) a) i + 1))), (4, .int (iN (((i : Nat) : Int) + 1)))]) [2, 3, 4, 1, 0] rfl ?_
      refine V_lv (congrArg (fun q : Int => ([(0, .ref (ga g (67))), (1, .ref (ga g (5))), (2, .int (iN (a))), (3, .int (iN q)), (4, .int (iN (((i : Nat) : Int) + 1)))] : List (Nat × Value))) (show sumF (fun o => ahI (cntC σ) n (σ.1 69 o) a) i + 1 = sumF (fun o => ahI (cntC σ) n (σ.1 69 o) a) (i + 1) from by show _ = sumF _ i + ahI _ _ _ _; rw [ahI_y hhs])) ?_
      refine V_lv (congrArg (fun q : Int => ([(0, .ref (ga g (67))), (1, .ref (ga g (5))), (2, .int (iN (a))), (3, .int (iN (sumF (fun o => ahI (cntC σ) n (σ.1 69 o) a) (i + 1)))), (4, .int (iN q))] : List (Nat × Value))) (show ((i : Nat) : Int) + 1 = (((i + 1) : Nat) : Int) from by omega)) ?_
      exact kk _ _ ⟨rfl, rfl, sum01_b (fun l => ahI_b) hb⟩
    · skip
      rw [if_neg hhs] at hz9
      subst hz9
      refine V_if_eq X 30 ⟨by decide, by decide⟩ dX4_lapsAhead_24 (by decide) (fun _ => ?_) (fun h => absurd h (by first | decide | omega))
      refine V_iinc X [(4, .int (iN (((i : Nat) : Int) + 1))), (0, .ref (ga g (67))), (1, .ref (ga g (5))), (2, .int (iN (a))), (3, .int (iN (sumF (fun o => ahI (cntC σ) n (σ.1 69 o) a) i)))] 4 (((i : Nat) : Int) + 1) (rfl) rfl dX4_lapsAhead_30 (by decide) rfl ?_
      refine V_goto X 5 dX4_lapsAhead_33 (by decide) ?_
      refine V_sub (lv' := [(0, .ref (ga g (67))), (1, .ref (ga g (5))), (2, .int (iN (a))), (3, .int (iN (sumF (fun o => ahI (cntC σ) n (σ.1 69 o) a) i))), (4, .int (iN (((i : Nat) : Int) + 1)))]) [1, 2, 3, 4, 0] rfl ?_
      refine V_lv (congrArg (fun q : Int => ([(0, .ref (ga g (67))), (1, .ref (ga g (5))), (2, .int (iN (a))), (3, .int (iN q)), (4, .int (iN (((i : Nat) : Int) + 1)))] : List (Nat × Value))) (show sumF (fun o => ahI (cntC σ) n (σ.1 69 o) a) i = sumF (fun o => ahI (cntC σ) n (σ.1 69 o) a) (i + 1) from by show _ = sumF _ i + ahI _ _ _ _; rw [ahI_n hhs]; omega)) ?_
      refine V_lv (congrArg (fun q : Int => ([(0, .ref (ga g (67))), (1, .ref (ga g (5))), (2, .int (iN (a))), (3, .int (iN (sumF (fun o => ahI (cntC σ) n (σ.1 69 o) a) (i + 1)))), (4, .int (iN q))] : List (Nat × Value))) (show ((i : Nat) : Int) + 1 = (((i + 1) : Nat) : Int) from by omega)) ?_
      exact kk _ _ ⟨rfl, rfl, sum01_b (fun l => ahI_b) hb⟩
set_option maxRecDepth 100000 in
set_option maxHeartbeats 4000000 in
theorem m_X4_score (g : Geo) (l : Launch) (hl9 : l.stackTraces = false) (σ : St) (hR : RG σ) (n : Nat) (hLB : LB σ n) (r d : Nat) (hr10 : r < 10) (hd : d < 6) (h71 : 0 ≤ σ.1 71 d ∧ σ.1 71 d ≤ 100000) (h72 : 0 ≤ σ.1 72 d ∧ σ.1 72 d ≤ 100000) : Met l yX4_score wsX4_score ({ frames := 3, cells := 0, slots := 0, locals := 69 }) (va_Pc [.ref (ga g (67)), .ref (ga g (5)), .int (iN (((r : Nat) : Int))), .int (iN (((d : Nat) : Int)))] (World g σ)) (QV g (fun u => ScP σ r d (if σ.1 69 d = -1 then 0 else ptF (plA σ n d)) (if ¬ σ.1 69 d = -1 ∧ plA σ n d = 0 then 1 else 0) u)) 0 0 (gA g) := by
  refine V_met hl9 (by decide) rfl (Nat.le_of_ble_eq_true rfl) ?_
  intro p9 e9 s9 m9 b9 t9 c9 X hr _
  refine V_lv (lv' := [(0, .ref (ga g (67))), (1, .ref (ga g (5))), (2, .int (iN (((r : Nat) : Int)))), (3, .int (iN (((d : Nat) : Int))))]) rfl ?_
  refine V_iconst X dX4_score_0 ?_
  refine V_istore X [(4, .int (iN (0))), (0, .ref (ga g (67))), (1, .ref (ga g (5))), (2, .int (iN (((r : Nat) : Int)))), (3, .int (iN (((d : Nat) : Int))))] dX4_score_1 (by decide) rfl ?_
  refine V_aload_n X 1 rfl dX4_score_3 rfl ?_
  refine V_get X (ci := 4) (67) (by decide) (rfl) (by decide) rfl (fun _ h => List.mem_cons_of_mem _ (List.mem_append_left _ (List.mem_append_left _ (List.mem_append_right _ h)))) 4 (by decide) (List.mem_of_getElem? (i := 1) rfl) rfl rfl dX4_score_4 ?_
  refine V_iload_n X 4 rfl dX4_score_7 rfl ?_
  refine V_iald X (N := 6) (69) (by decide) (rfl) (rfl) (by decide) (d) (rfl) (hd) dX4_score_8 ?_
  refine V_iconst X dX4_score_9 ?_
  refine V_icmp_eq X 66 (hR _ _) ⟨by decide, by decide⟩ dX4_score_10 (by decide) (fun q1 => ?_) (fun q1 => ?_)
  · skip
    refine V_aload_n X 1 rfl dX4_score_66 rfl ?_
    refine V_get X (ci := 4) (67) (by decide) (rfl) (by decide) rfl (fun _ h => List.mem_cons_of_mem _ (List.mem_append_left _ (List.mem_append_left _ (List.mem_append_right _ h)))) 5 (by decide) (List.mem_of_getElem? (i := 3) rfl) rfl rfl dX4_score_67 ?_
    refine V_iload_n X 4 rfl dX4_score_70 rfl ?_
    refine V_bipush X (by decide) dX4_score_71 ?_
    refine V_imul X dX4_score_73 ?_
    refine V_iload_n X 3 rfl dX4_score_74 rfl ?_
    refine V_iadd X dX4_score_75 ?_
    refine V_iload X 0 rfl dX4_score_76 ?_
    refine V_iast X (N := 60) (70) (by decide) (rfl) (rfl) (by decide) (10 * d + r) (by omega) (by omega) dX4_score_78 ?_
    refine V_aload_n X 1 rfl dX4_score_79 rfl ?_
    refine V_get X (ci := 4) (67) (by decide) (rfl) (by decide) rfl (fun _ h => List.mem_cons_of_mem _ (List.mem_append_left _ (List.mem_append_left _ (List.mem_append_right _ h)))) 6 (by decide) (List.mem_of_getElem? (i := 4) rfl) rfl rfl dX4_score_80 ?_
    refine V_iload_n X 4 rfl dX4_score_83 rfl ?_
    refine V_dup2 X rfl rfl dX4_score_84 ?_
    refine V_iald X (N := 6) (71) (by decide) (rfl) (rfl) (by decide) (d) (rfl) (hd) dX4_score_85 ?_
    refine V_top (b := σ.1 71 d) (rd_n (by decide)) ?_
    refine V_iload X 0 rfl dX4_score_86 ?_
    refine V_iadd X dX4_score_88 ?_
    refine V_iast X (N := 6) (71) (by decide) (rfl) (rfl) (by decide) (d) (rfl) (hd) dX4_score_89 ?_
    exact V_vret X hr (by show ScP _ _ _ _ _ _; rw [if_pos (by omega), if_neg (fun q => q.1 (by omega))]; exact sc_0 hR h71) dX4_score_90 (by decide) (by decide)
  · skip
    refine V_aload_n X 1 rfl dX4_score_13 rfl ?_
    refine V_aload_n X 2 rfl dX4_score_14 rfl ?_
    refine V_aload_n X 1 rfl dX4_score_15 rfl ?_
    refine V_get X (ci := 4) (67) (by decide) (rfl) (by decide) rfl (fun _ h => List.mem_cons_of_mem _ (List.mem_append_left _ (List.mem_append_left _ (List.mem_append_right _ h)))) 4 (by decide) (List.mem_of_getElem? (i := 1) rfl) rfl rfl dX4_score_16 ?_
    refine V_iload_n X 4 rfl dX4_score_19 rfl ?_
    refine V_iald X (N := 6) (69) (by decide) (rfl) (rfl) (by decide) (d) (rfl) (hd) dX4_score_20 ?_
    refine V_callV_I X (na := 2) (ci := 4) (b0 := 67) (by decide) (rfl) (by decide) rfl (m_X4_lapsAhead g l hl9 σ hR n hLB (σ.1 69 d) (hR _ _)) gX4_score_X4_lapsAhead rfl rfl rfl (by decide +kernel) ⟨Nat.le_of_ble_eq_true rfl, Nat.le_of_ble_eq_true rfl⟩ rfl rfl (Nat.le_of_ble_eq_true rfl) ⟨Nat.le_of_ble_eq_true rfl, Nat.le_of_ble_eq_true rfl⟩ dX4_score_21 (fun z2 u3 z2r hp4 => ?_)
    obtain ⟨hz, hu5⟩ := hp4
    have hu5 := hu5.symm
    subst hu5
    have hzb := sumF_b (f := fun o => ahI (cntC σ) n (σ.1 69 o) (σ.1 69 d)) (c := 1) (fun l => ahI_b) 6
    rw [← hz] at hzb
    have hzA : z2 = plA σ n d := hz
    refine V_istore X [(5, .int (iN (z2))), (4, .int (iN (0))), (0, .ref (ga g (67))), (1, .ref (ga g (5))), (2, .int (iN (((r : Nat) : Int)))), (3, .int (iN (((d : Nat) : Int))))] dX4_score_24 (by decide) rfl ?_
    refine V_iload X 0 rfl dX4_score_26 ?_
    refine V_getsP X rfl dX4_score_28 ?_
    refine V_lenP X dX4_score_31 ?_
    refine V_icmp_ge X 44 ⟨by omega, by omega⟩ ⟨by decide, by decide⟩ dX4_score_32 (by decide) (fun q6 => ?_) (fun q6 => ?_)
    · skip
      refine V_iconst X dX4_score_44 ?_
      refine V_istore X [(4, .int (iN (0))), (5, .int (iN (z2))), (0, .ref (ga g (67))), (1, .ref (ga g (5))), (2, .int (iN (((r : Nat) : Int)))), (3, .int (iN (((d : Nat) : Int))))] dX4_score_45 (by decide) rfl ?_
      refine V_aload_n X 2 rfl dX4_score_47 rfl ?_
      refine V_get X (ci := 4) (67) (by decide) (rfl) (by decide) rfl (fun _ h => List.mem_cons_of_mem _ (List.mem_append_left _ (List.mem_append_left _ (List.mem_append_right _ h)))) 7 (by decide) (List.mem_of_getElem? (i := 2) rfl) rfl rfl dX4_score_48 ?_
      refine V_iload_n X 5 rfl dX4_score_51 rfl ?_
      refine V_dup2 X rfl rfl dX4_score_52 ?_
      refine V_iald X (N := 6) (72) (by decide) (rfl) (rfl) (by decide) (d) (rfl) (hd) dX4_score_53 ?_
      refine V_iload X 1 rfl dX4_score_54 ?_
      refine V_if_ne X 63 ⟨by omega, by omega⟩ dX4_score_56 (by decide) (fun q7 => ?_) (fun q7 => ?_)
      · skip
        refine V_iconst X dX4_score_63 ?_
        refine V_iadd X dX4_score_64 ?_
        refine V_iast X (N := 6) (72) (by decide) (rfl) (rfl) (by decide) (d) (rfl) (hd) dX4_score_65 ?_
        refine V_aload_n X 2 rfl dX4_score_66 rfl ?_
        refine V_get X (ci := 4) (67) (by decide) (rfl) (by decide) rfl (fun _ h => List.mem_cons_of_mem _ (List.mem_append_left _ (List.mem_append_left _ (List.mem_append_right _ h)))) 5 (by decide) (List.mem_of_getElem? (i := 3) rfl) rfl rfl dX4_score_67 ?_
        refine V_iload_n X 5 rfl dX4_score_70 rfl ?_
        refine V_bipush X (by decide) dX4_score_71 ?_
        refine V_imul X dX4_score_73 ?_
        refine V_iload_n X 4 rfl dX4_score_74 rfl ?_
        refine V_iadd X dX4_score_75 ?_
        refine V_iload X 0 rfl dX4_score_76 ?_
        refine V_iast X (N := 60) (70) (by decide) (rfl) (rfl) (by decide) (10 * d + r) (by omega) (by omega) dX4_score_78 ?_
        refine V_aload_n X 2 rfl dX4_score_79 rfl ?_
        refine V_get X (ci := 4) (67) (by decide) (rfl) (by decide) rfl (fun _ h => List.mem_cons_of_mem _ (List.mem_append_left _ (List.mem_append_left _ (List.mem_append_right _ h)))) 6 (by decide) (List.mem_of_getElem? (i := 4) rfl) rfl rfl dX4_score_80 ?_
        refine V_iload_n X 5 rfl dX4_score_83 rfl ?_
        refine V_dup2 X rfl rfl dX4_score_84 ?_
        refine V_iald X (N := 6) (71) (by decide) (rfl) (rfl) (by decide) (d) (rfl) (hd) dX4_score_85 ?_
        refine V_top (b := σ.1 71 d) (Eq.trans (rd_n (by decide)) (rd_n (by decide))) ?_
        refine V_iload X 0 rfl dX4_score_86 ?_
        refine V_iadd X dX4_score_88 ?_
        refine V_iast X (N := 6) (71) (by decide) (rfl) (rfl) (by decide) (d) (rfl) (hd) dX4_score_89 ?_
        exact V_vret X hr (by show ScP _ _ _ _ _ _; have hwb := worthP_b (z2).toNat; rw [if_neg (by omega), if_neg (fun q => by omega), ← hzA, ptF, if_neg (by omega)]; exact sc_1 hR h71 h72 (by omega) (by omega)) dX4_score_90 (by decide) (by decide)
      · skip
        refine V_iconst X dX4_score_59 ?_
        refine V_goto X 64 dX4_score_60 (by decide) ?_
        refine V_iadd X dX4_score_64 ?_
        refine V_iast X (N := 6) (72) (by decide) (rfl) (rfl) (by decide) (d) (rfl) (hd) dX4_score_65 ?_
        refine V_aload_n X 2 rfl dX4_score_66 rfl ?_
        refine V_get X (ci := 4) (67) (by decide) (rfl) (by decide) rfl (fun _ h => List.mem_cons_of_mem _ (List.mem_append_left _ (List.mem_append_left _ (List.mem_append_right _ h)))) 5 (by decide) (List.mem_of_getElem? (i := 3) rfl) rfl rfl dX4_score_67 ?_
        refine V_iload_n X 5 rfl dX4_score_70 rfl ?_
        refine V_bipush X (by decide) dX4_score_71 ?_
        refine V_imul X dX4_score_73 ?_
        refine V_iload_n X 4 rfl dX4_score_74 rfl ?_
        refine V_iadd X dX4_score_75 ?_
        refine V_iload X 0 rfl dX4_score_76 ?_
        refine V_iast X (N := 60) (70) (by decide) (rfl) (rfl) (by decide) (10 * d + r) (by omega) (by omega) dX4_score_78 ?_
        refine V_aload_n X 2 rfl dX4_score_79 rfl ?_
        refine V_get X (ci := 4) (67) (by decide) (rfl) (by decide) rfl (fun _ h => List.mem_cons_of_mem _ (List.mem_append_left _ (List.mem_append_left _ (List.mem_append_right _ h)))) 6 (by decide) (List.mem_of_getElem? (i := 4) rfl) rfl rfl dX4_score_80 ?_
        refine V_iload_n X 5 rfl dX4_score_83 rfl ?_
        refine V_dup2 X rfl rfl dX4_score_84 ?_
        refine V_iald X (N := 6) (71) (by decide) (rfl) (rfl) (by decide) (d) (rfl) (hd) dX4_score_85 ?_
        refine V_top (b := σ.1 71 d) (Eq.trans (rd_n (by decide)) (rd_n (by decide))) ?_
        refine V_iload X 0 rfl dX4_score_86 ?_
        refine V_iadd X dX4_score_88 ?_
        refine V_iast X (N := 6) (71) (by decide) (rfl) (rfl) (by decide) (d) (rfl) (hd) dX4_score_89 ?_
        exact V_vret X hr (by show ScP _ _ _ _ _ _; have hwb := worthP_b (z2).toNat; rw [if_neg (by omega), if_pos ⟨by omega, by omega⟩, ← hzA, ptF, if_neg (by omega)]; exact sc_1 hR h71 h72 (by omega) (by omega)) dX4_score_90 (by decide) (by decide)
    · skip
      refine V_getsP X rfl dX4_score_35 ?_
      refine V_iload X 0 rfl dX4_score_38 ?_
      refine V_ldP X ((z2).toNat) (by omega) (by omega) dX4_score_40 ?_
      refine V_goto X 45 dX4_score_41 (by decide) ?_
      refine V_istore X [(4, .int (iN (worthP ((z2).toNat)))), (5, .int (iN (z2))), (0, .ref (ga g (67))), (1, .ref (ga g (5))), (2, .int (iN (((r : Nat) : Int)))), (3, .int (iN (((d : Nat) : Int))))] dX4_score_45 (by decide) rfl ?_
      refine V_aload_n X 2 rfl dX4_score_47 rfl ?_
      refine V_get X (ci := 4) (67) (by decide) (rfl) (by decide) rfl (fun _ h => List.mem_cons_of_mem _ (List.mem_append_left _ (List.mem_append_left _ (List.mem_append_right _ h)))) 7 (by decide) (List.mem_of_getElem? (i := 2) rfl) rfl rfl dX4_score_48 ?_
      refine V_iload_n X 5 rfl dX4_score_51 rfl ?_
      refine V_dup2 X rfl rfl dX4_score_52 ?_
      refine V_iald X (N := 6) (72) (by decide) (rfl) (rfl) (by decide) (d) (rfl) (hd) dX4_score_53 ?_
      refine V_iload X 1 rfl dX4_score_54 ?_
      refine V_if_ne X 63 ⟨by omega, by omega⟩ dX4_score_56 (by decide) (fun q8 => ?_) (fun q8 => ?_)
      · skip
        refine V_iconst X dX4_score_63 ?_
        refine V_iadd X dX4_score_64 ?_
        refine V_iast X (N := 6) (72) (by decide) (rfl) (rfl) (by decide) (d) (rfl) (hd) dX4_score_65 ?_
        refine V_aload_n X 2 rfl dX4_score_66 rfl ?_
        refine V_get X (ci := 4) (67) (by decide) (rfl) (by decide) rfl (fun _ h => List.mem_cons_of_mem _ (List.mem_append_left _ (List.mem_append_left _ (List.mem_append_right _ h)))) 5 (by decide) (List.mem_of_getElem? (i := 3) rfl) rfl rfl dX4_score_67 ?_
        refine V_iload_n X 5 rfl dX4_score_70 rfl ?_
        refine V_bipush X (by decide) dX4_score_71 ?_
        refine V_imul X dX4_score_73 ?_
        refine V_iload_n X 4 rfl dX4_score_74 rfl ?_
        refine V_iadd X dX4_score_75 ?_
        refine V_iload X 0 rfl dX4_score_76 ?_
        refine V_iast X (N := 60) (70) (by decide) (rfl) (rfl) (by decide) (10 * d + r) (by omega) (by omega) dX4_score_78 ?_
        refine V_aload_n X 2 rfl dX4_score_79 rfl ?_
        refine V_get X (ci := 4) (67) (by decide) (rfl) (by decide) rfl (fun _ h => List.mem_cons_of_mem _ (List.mem_append_left _ (List.mem_append_left _ (List.mem_append_right _ h)))) 6 (by decide) (List.mem_of_getElem? (i := 4) rfl) rfl rfl dX4_score_80 ?_
        refine V_iload_n X 5 rfl dX4_score_83 rfl ?_
        refine V_dup2 X rfl rfl dX4_score_84 ?_
        refine V_iald X (N := 6) (71) (by decide) (rfl) (rfl) (by decide) (d) (rfl) (hd) dX4_score_85 ?_
        refine V_top (b := σ.1 71 d) (Eq.trans (rd_n (by decide)) (rd_n (by decide))) ?_
        refine V_iload X 0 rfl dX4_score_86 ?_
        refine V_iadd X dX4_score_88 ?_
        refine V_iast X (N := 6) (71) (by decide) (rfl) (rfl) (by decide) (d) (rfl) (hd) dX4_score_89 ?_
        exact V_vret X hr (by show ScP _ _ _ _ _ _; have hwb := worthP_b (z2).toNat; rw [if_neg (by omega), if_neg (fun q => by omega), ← hzA, ptF, if_pos (by omega)]; exact sc_1 hR h71 h72 (by omega) (by omega)) dX4_score_90 (by decide) (by decide)
      · skip
        refine V_iconst X dX4_score_59 ?_
        refine V_goto X 64 dX4_score_60 (by decide) ?_
        refine V_iadd X dX4_score_64 ?_
        refine V_iast X (N := 6) (72) (by decide) (rfl) (rfl) (by decide) (d) (rfl) (hd) dX4_score_65 ?_
        refine V_aload_n X 2 rfl dX4_score_66 rfl ?_
        refine V_get X (ci := 4) (67) (by decide) (rfl) (by decide) rfl (fun _ h => List.mem_cons_of_mem _ (List.mem_append_left _ (List.mem_append_left _ (List.mem_append_right _ h)))) 5 (by decide) (List.mem_of_getElem? (i := 3) rfl) rfl rfl dX4_score_67 ?_
        refine V_iload_n X 5 rfl dX4_score_70 rfl ?_
        refine V_bipush X (by decide) dX4_score_71 ?_
        refine V_imul X dX4_score_73 ?_
        refine V_iload_n X 4 rfl dX4_score_74 rfl ?_
        refine V_iadd X dX4_score_75 ?_
        refine V_iload X 0 rfl dX4_score_76 ?_
        refine V_iast X (N := 60) (70) (by decide) (rfl) (rfl) (by decide) (10 * d + r) (by omega) (by omega) dX4_score_78 ?_
        refine V_aload_n X 2 rfl dX4_score_79 rfl ?_
        refine V_get X (ci := 4) (67) (by decide) (rfl) (by decide) rfl (fun _ h => List.mem_cons_of_mem _ (List.mem_append_left _ (List.mem_append_left _ (List.mem_append_right _ h)))) 6 (by decide) (List.mem_of_getElem? (i := 4) rfl) rfl rfl dX4_score_80 ?_
        refine V_iload_n X 5 rfl dX4_score_83 rfl ?_
        refine V_dup2 X rfl rfl dX4_score_84 ?_
        refine V_iald X (N := 6) (71) (by decide) (rfl) (rfl) (by decide) (d) (rfl) (hd) dX4_score_85 ?_
        refine V_top (b := σ.1 71 d) (Eq.trans (rd_n (by decide)) (rd_n (by decide))) ?_
        refine V_iload X 0 rfl dX4_score_86 ?_
        refine V_iadd X dX4_score_88 ?_
        refine V_iast X (N := 6) (71) (by decide) (rfl) (rfl) (by decide) (d) (rfl) (hd) dX4_score_89 ?_
        exact V_vret X hr (by show ScP _ _ _ _ _ _; have hwb := worthP_b (z2).toNat; rw [if_neg (by omega), if_pos ⟨by omega, by omega⟩, ← hzA, ptF, if_pos (by omega)]; exact sc_1 hR h71 h72 (by omega) (by omega)) dX4_score_90 (by decide) (by decide)
set_option maxRecDepth 100000 in
set_option maxHeartbeats 4000000 in
theorem m_X4_takeLeast (g : Geo) (l : Launch) (hl9 : l.stackTraces = false) (σ : St) (hR : RG σ) (d R : Nat) (hd : d < 6) (hR1 : 1 ≤ R) (hR10 : R ≤ 10) (hRr : σ.1 67 1 = (R : Int)) : Met l yX4_takeLeast wsX4_takeLeast ({ frames := 0, cells := 0, slots := 0, locals := 0 }) (va_Pc [.ref (ga g (67)), .int (iN (((d : Nat) : Int)))] (World g σ)) (QI g (fun z u => z = σ.1 70 (10 * d + amG (fun k => σ.1 70 (10 * d + k)) R) ∧ u = sw σ 70 (10 * d + amG (fun k => σ.1 70 (10 * d + k)) R) 100)) 0 0 (gA g) := by
  refine V_met hl9 (by decide) rfl (Nat.le_of_ble_eq_true rfl) ?_
  intro p9 e9 s9 m9 b9 t9 c9 X hr _
  refine V_lv (lv' := [(0, .ref (ga g (67))), (1, .int (iN (((d : Nat) : Int))))]) rfl ?_
  refine V_iload_n X 1 rfl dX4_takeLeast_0 rfl ?_
  refine V_bipush X (by decide) dX4_takeLeast_1 ?_
  refine V_imul X dX4_takeLeast_3 ?_
  refine V_top (b := ((10 * d : Nat) : Int)) (by omega) ?_
  refine V_istore_n X [(2, .int (iN (((10 * d : Nat) : Int)))), (0, .ref (ga g (67))), (1, .int (iN (((d : Nat) : Int))))] dX4_takeLeast_4 rfl (by decide) rfl ?_
  refine V_iload_n X 0 rfl dX4_takeLeast_5 rfl ?_
  refine V_istore_n X [(3, .int (iN (((10 * d : Nat) : Int)))), (2, .int (iN (((10 * d : Nat) : Int)))), (0, .ref (ga g (67))), (1, .int (iN (((d : Nat) : Int))))] dX4_takeLeast_6 rfl (by decide) rfl ?_
  refine V_iload_n X 1 rfl dX4_takeLeast_7 rfl ?_
  refine V_iconst X dX4_takeLeast_8 ?_
  refine V_iadd X dX4_takeLeast_9 ?_
  refine V_top (b := ((10 * d + 1 : Nat) : Int)) (by omega) ?_
  refine V_istore X [(4, .int (iN (((10 * d + 1 : Nat) : Int)))), (3, .int (iN (((10 * d : Nat) : Int)))), (2, .int (iN (((10 * d : Nat) : Int)))), (0, .ref (ga g (67))), (1, .int (iN (((d : Nat) : Int))))] dX4_takeLeast_10 (by decide) rfl ?_
  refine V_sub (lv' := [(0, .ref (ga g (67))), (1, .int (iN (((d : Nat) : Int)))), (2, .int (iN (((10 * d : Nat) : Int)))), (3, .int (iN (((10 * d : Nat) : Int)))), (4, .int (iN (((10 * d + 1 : Nat) : Int))))]) [3, 4, 2, 1, 0] rfl ?_
  refine V_lv (congrArg (fun q : Int => ([(0, .ref (ga g (67))), (1, .int (iN (((d : Nat) : Int)))), (2, .int (iN (((10 * d : Nat) : Int)))), (3, .int (iN q)), (4, .int (iN (((10 * d + 1 : Nat) : Int))))] : List (Nat × Value))) (show ((10 * d : Nat) : Int) = ((10 * d + amG (fun k => σ.1 70 (10 * d + k)) 1 : Nat) : Int) from by rw [amG_1]; rfl)) ?_
  refine V_up (N := R) (fun (i : Nat) (u : St) (lw : List (Nat × Value)) => σ = u ∧ [(0, .ref (ga g (67))), (1, .int (iN (((d : Nat) : Int)))), (2, .int (iN (((10 * d : Nat) : Int)))), (3, .int (iN (((10 * d + amG (fun k => σ.1 70 (10 * d + k)) i : Nat) : Int)))), (4, .int (iN (((10 * d + i : Nat) : Int))))] = lw ∧ (1 ≤ i ∧ amG (fun k => σ.1 70 (10 * d + k)) i < i)) (i0 := 1) (by omega) ⟨rfl, rfl, ⟨Nat.le_refl 1, amG_lt 0⟩⟩ ?_ ?_
  · skip
    rintro _ _ ⟨rfl, rfl, hv⟩
    refine V_iload X 4 rfl dX4_takeLeast_12 ?_
    refine V_iload_n X 2 rfl dX4_takeLeast_14 rfl ?_
    refine V_aload_n X 0 rfl dX4_takeLeast_15 rfl ?_
    refine V_get X (ci := 4) (67) (by decide) (rfl) (by decide) rfl (fun _ h => List.mem_cons_of_mem _ (List.mem_append_right _ h)) 1 (by decide) (List.mem_of_getElem? (i := 1) rfl) rfl rfl dX4_takeLeast_16 ?_
    refine V_iadd X dX4_takeLeast_19 ?_
    refine V_icmp_ge X 48 ⟨by omega, by omega⟩ ⟨by omega, by omega⟩ dX4_takeLeast_20 (by decide) (fun _ => ?_) (fun h => absurd h (by omega))
    refine V_aload_n X 0 rfl dX4_takeLeast_48 rfl ?_
    refine V_get X (ci := 4) (67) (by decide) (rfl) (by decide) rfl (fun _ h => List.mem_cons_of_mem _ (List.mem_append_right _ h)) 5 (by decide) (List.mem_of_getElem? (i := 2) rfl) rfl rfl dX4_takeLeast_49 ?_
    refine V_iload_n X 3 rfl dX4_takeLeast_52 rfl ?_
    refine V_iald X (N := 60) (70) (by decide) (rfl) (rfl) (by decide) (10 * d + amG (fun k => σ.1 70 (10 * d + k)) R) (rfl) (by omega) dX4_takeLeast_53 ?_
    refine V_istore X [(4, .int (iN (σ.1 (70) (10 * d + amG (fun k => σ.1 70 (10 * d + k)) R)))), (0, .ref (ga g (67))), (1, .int (iN (((d : Nat) : Int)))), (2, .int (iN (((10 * d : Nat) : Int)))), (3, .int (iN (((10 * d + amG (fun k => σ.1 70 (10 * d + k)) R : Nat) : Int))))] dX4_takeLeast_54 (by decide) rfl ?_
    refine V_aload_n X 1 rfl dX4_takeLeast_56 rfl ?_
    refine V_get X (ci := 4) (67) (by decide) (rfl) (by decide) rfl (fun _ h => List.mem_cons_of_mem _ (List.mem_append_right _ h)) 5 (by decide) (List.mem_of_getElem? (i := 2) rfl) rfl rfl dX4_takeLeast_57 ?_
    refine V_iload_n X 4 rfl dX4_takeLeast_60 rfl ?_
    refine V_bipush X (by decide) dX4_takeLeast_61 ?_
    refine V_iast X (N := 60) (70) (by decide) (rfl) (rfl) (by decide) (10 * d + amG (fun k => σ.1 70 (10 * d + k)) R) (rfl) (by omega) dX4_takeLeast_63 ?_
    refine V_iload X 0 rfl dX4_takeLeast_64 ?_
    exact V_iret X hr rfl (hR _ _) (by exact ⟨rfl, rfl⟩) dX4_takeLeast_66 (by decide) (by decide)
  · skip
    rintro i _ _ hiN ⟨rfl, rfl, hv⟩ kk
    refine V_iload X 4 rfl dX4_takeLeast_12 ?_
    refine V_iload_n X 2 rfl dX4_takeLeast_14 rfl ?_
    refine V_aload_n X 0 rfl dX4_takeLeast_15 rfl ?_
    refine V_get X (ci := 4) (67) (by decide) (rfl) (by decide) rfl (fun _ h => List.mem_cons_of_mem _ (List.mem_append_right _ h)) 1 (by decide) (List.mem_of_getElem? (i := 1) rfl) rfl rfl dX4_takeLeast_16 ?_
    refine V_iadd X dX4_takeLeast_19 ?_
    refine V_icmp_ge X 48 ⟨by omega, by omega⟩ ⟨by omega, by omega⟩ dX4_takeLeast_20 (by decide) (fun h => absurd h (by omega)) (fun _ => ?_)
    refine V_aload_n X 0 rfl dX4_takeLeast_23 rfl ?_
    refine V_get X (ci := 4) (67) (by decide) (rfl) (by decide) rfl (fun _ h => List.mem_cons_of_mem _ (List.mem_append_right _ h)) 5 (by decide) (List.mem_of_getElem? (i := 2) rfl) rfl rfl dX4_takeLeast_24 ?_
    refine V_iload X 4 rfl dX4_takeLeast_27 ?_
    refine V_iald X (N := 60) (70) (by decide) (rfl) (rfl) (by decide) (10 * d + i) (rfl) (by omega) dX4_takeLeast_29 ?_
    refine V_aload_n X 0 rfl dX4_takeLeast_30 rfl ?_
    refine V_get X (ci := 4) (67) (by decide) (rfl) (by decide) rfl (fun _ h => List.mem_cons_of_mem _ (List.mem_append_right _ h)) 5 (by decide) (List.mem_of_getElem? (i := 2) rfl) rfl rfl dX4_takeLeast_31 ?_
    refine V_iload_n X 3 rfl dX4_takeLeast_34 rfl ?_
    refine V_iald X (N := 60) (70) (by decide) (rfl) (rfl) (by decide) (10 * d + amG (fun k => σ.1 70 (10 * d + k)) i) (rfl) (by omega) dX4_takeLeast_35 ?_
    refine V_icmp_ge X 42 (hR _ _) (hR _ _) dX4_takeLeast_36 (by decide) (fun q1 => ?_) (fun q1 => ?_)
    · skip
      refine V_iinc X [(4, .int (iN (((10 * d + i : Nat) : Int) + 1))), (0, .ref (ga g (67))), (1, .int (iN (((d : Nat) : Int)))), (2, .int (iN (((10 * d : Nat) : Int)))), (3, .int (iN (((10 * d + amG (fun k => σ.1 70 (10 * d + k)) i : Nat) : Int))))] 4 (((10 * d + i : Nat) : Int) + 1) (rfl) rfl dX4_takeLeast_42 (by decide) rfl ?_
      refine V_goto X 12 dX4_takeLeast_45 (by decide) ?_
      refine V_sub (lv' := [(0, .ref (ga g (67))), (1, .int (iN (((d : Nat) : Int)))), (2, .int (iN (((10 * d : Nat) : Int)))), (3, .int (iN (((10 * d + amG (fun k => σ.1 70 (10 * d + k)) i : Nat) : Int)))), (4, .int (iN (((10 * d + i : Nat) : Int) + 1)))]) [1, 2, 3, 4, 0] rfl ?_
      refine V_lv (congrArg (fun q : Int => ([(0, .ref (ga g (67))), (1, .int (iN (((d : Nat) : Int)))), (2, .int (iN (((10 * d : Nat) : Int)))), (3, .int (iN q)), (4, .int (iN (((10 * d + i : Nat) : Int) + 1)))] : List (Nat × Value))) (show ((10 * d + amG (fun k => σ.1 70 (10 * d + k)) i : Nat) : Int) = ((10 * d + amG (fun k => σ.1 70 (10 * d + k)) (i + 1) : Nat) : Int) from by rw [amG, if_neg (by omega)])) ?_
      refine V_lv (congrArg (fun q : Int => ([(0, .ref (ga g (67))), (1, .int (iN (((d : Nat) : Int)))), (2, .int (iN (((10 * d : Nat) : Int)))), (3, .int (iN (((10 * d + amG (fun k => σ.1 70 (10 * d + k)) (i + 1) : Nat) : Int)))), (4, .int (iN q))] : List (Nat × Value))) (show ((10 * d + i : Nat) : Int) + 1 = ((10 * d + (i + 1) : Nat) : Int) from by omega)) ?_
      exact kk _ _ ⟨rfl, rfl, ⟨by omega, by have := amG_lt (a := fun k => σ.1 70 (10 * d + k)) i; omega⟩⟩
    · skip
      refine V_iload X 4 rfl dX4_takeLeast_39 ?_
      refine V_istore_n X [(3, .int (iN (((10 * d + i : Nat) : Int)))), (0, .ref (ga g (67))), (1, .int (iN (((d : Nat) : Int)))), (2, .int (iN (((10 * d : Nat) : Int)))), (4, .int (iN (((10 * d + i : Nat) : Int))))] dX4_takeLeast_41 rfl (by decide) rfl ?_
      refine V_iinc X [(4, .int (iN (((10 * d + i : Nat) : Int) + 1))), (3, .int (iN (((10 * d + i : Nat) : Int)))), (0, .ref (ga g (67))), (1, .int (iN (((d : Nat) : Int)))), (2, .int (iN (((10 * d : Nat) : Int))))] 4 (((10 * d + i : Nat) : Int) + 1) (rfl) rfl dX4_takeLeast_42 (by decide) rfl ?_
      refine V_goto X 12 dX4_takeLeast_45 (by decide) ?_
      refine V_sub (lv' := [(0, .ref (ga g (67))), (1, .int (iN (((d : Nat) : Int)))), (2, .int (iN (((10 * d : Nat) : Int)))), (3, .int (iN (((10 * d + i : Nat) : Int)))), (4, .int (iN (((10 * d + i : Nat) : Int) + 1)))]) [2, 3, 4, 1, 0] rfl ?_
      refine V_lv (congrArg (fun q : Int => ([(0, .ref (ga g (67))), (1, .int (iN (((d : Nat) : Int)))), (2, .int (iN (((10 * d : Nat) : Int)))), (3, .int (iN q)), (4, .int (iN (((10 * d + i : Nat) : Int) + 1)))] : List (Nat × Value))) (show ((10 * d + i : Nat) : Int) = ((10 * d + amG (fun k => σ.1 70 (10 * d + k)) (i + 1) : Nat) : Int) from by rw [amG, if_pos (by omega)])) ?_
      refine V_lv (congrArg (fun q : Int => ([(0, .ref (ga g (67))), (1, .int (iN (((d : Nat) : Int)))), (2, .int (iN (((10 * d : Nat) : Int)))), (3, .int (iN (((10 * d + amG (fun k => σ.1 70 (10 * d + k)) (i + 1) : Nat) : Int)))), (4, .int (iN q))] : List (Nat × Value))) (show ((10 * d + i : Nat) : Int) + 1 = ((10 * d + (i + 1) : Nat) : Int) from by omega)) ?_
      exact kk _ _ ⟨rfl, rfl, ⟨by omega, by have := amG_lt (a := fun k => σ.1 70 (10 * d + k)) i; omega⟩⟩
set_option maxRecDepth 100000 in
set_option maxHeartbeats 4000000 in
theorem m_X4_isAheadInSeason (g : Geo) (l : Launch) (hl9 : l.stackTraces = false) (σ : St) (hR : RG σ) (a b : Nat) (ha : a < 6) (hb : b < 6) : Met l yX4_isAheadInSeason wsX4_isAheadInSeason ({ frames := 0, cells := 0, slots := 0, locals := 0 }) (va_Pc [.ref (ga g (67)), .int (iN (((a : Nat) : Int))), .int (iN (((b : Nat) : Int)))] (World g σ)) (QI g (fun z u => z = asI (σ.1 71) (σ.1 72) a b ∧ u = σ)) 0 0 (gA g) := by
  refine V_met hl9 (by decide) rfl (Nat.le_of_ble_eq_true rfl) ?_
  intro p9 e9 s9 m9 b9 t9 c9 X hr _
  refine V_lv (lv' := [(0, .ref (ga g (67))), (1, .int (iN (((a : Nat) : Int)))), (2, .int (iN (((b : Nat) : Int))))]) rfl ?_
  refine V_aload_n X 0 rfl dX4_isAheadInSeason_0 rfl ?_
  refine V_get X (ci := 4) (67) (by decide) (rfl) (by decide) rfl (fun _ h => List.mem_cons_of_mem _ (List.mem_append_right _ h)) 6 (by decide) (List.mem_of_getElem? (i := 1) rfl) rfl rfl dX4_isAheadInSeason_1 ?_
  refine V_iload_n X 1 rfl dX4_isAheadInSeason_4 rfl ?_
  refine V_iald X (N := 6) (71) (by decide) (rfl) (rfl) (by decide) (a) (rfl) (by omega) dX4_isAheadInSeason_5 ?_
  refine V_aload_n X 0 rfl dX4_isAheadInSeason_6 rfl ?_
  refine V_get X (ci := 4) (67) (by decide) (rfl) (by decide) rfl (fun _ h => List.mem_cons_of_mem _ (List.mem_append_right _ h)) 6 (by decide) (List.mem_of_getElem? (i := 1) rfl) rfl rfl dX4_isAheadInSeason_7 ?_
  refine V_iload_n X 2 rfl dX4_isAheadInSeason_10 rfl ?_
  refine V_iald X (N := 6) (71) (by decide) (rfl) (rfl) (by decide) (b) (rfl) (by omega) dX4_isAheadInSeason_11 ?_
  refine V_icmp_eq X 36 (hR _ _) (hR _ _) dX4_isAheadInSeason_12 (by decide) (fun q1 => ?_) (fun q1 => ?_)
  · skip
    refine V_aload_n X 0 rfl dX4_isAheadInSeason_36 rfl ?_
    refine V_get X (ci := 4) (67) (by decide) (rfl) (by decide) rfl (fun _ h => List.mem_cons_of_mem _ (List.mem_append_right _ h)) 7 (by decide) (List.mem_of_getElem? (i := 2) rfl) rfl rfl dX4_isAheadInSeason_37 ?_
    refine V_iload_n X 1 rfl dX4_isAheadInSeason_40 rfl ?_
    refine V_iald X (N := 6) (72) (by decide) (rfl) (rfl) (by decide) (a) (rfl) (by omega) dX4_isAheadInSeason_41 ?_
    refine V_aload_n X 0 rfl dX4_isAheadInSeason_42 rfl ?_
    refine V_get X (ci := 4) (67) (by decide) (rfl) (by decide) rfl (fun _ h => List.mem_cons_of_mem _ (List.mem_append_right _ h)) 7 (by decide) (List.mem_of_getElem? (i := 2) rfl) rfl rfl dX4_isAheadInSeason_43 ?_
    refine V_iload_n X 2 rfl dX4_isAheadInSeason_46 rfl ?_
    refine V_iald X (N := 6) (72) (by decide) (rfl) (rfl) (by decide) (b) (rfl) (by omega) dX4_isAheadInSeason_47 ?_
    refine V_icmp_eq X 72 (hR _ _) (hR _ _) dX4_isAheadInSeason_48 (by decide) (fun q2 => ?_) (fun q2 => ?_)
    · skip
      refine V_iload_n X 1 rfl dX4_isAheadInSeason_72 rfl ?_
      refine V_iload_n X 2 rfl dX4_isAheadInSeason_73 rfl ?_
      refine V_icmp_ge X 81 ⟨by omega, by omega⟩ ⟨by omega, by omega⟩ dX4_isAheadInSeason_74 (by decide) (fun q3 => ?_) (fun q3 => ?_)
      · skip
        refine V_iconst X dX4_isAheadInSeason_81 ?_
        exact V_iret X hr (iN_bool (Or.inl rfl)).1 ⟨by decide, by decide⟩ (by exact ⟨(asI_n (by unfold asP; omega)).symm, rfl⟩) dX4_isAheadInSeason_82 (by decide) (by decide)
      · skip
        refine V_iconst X dX4_isAheadInSeason_77 ?_
        refine V_goto X 82 dX4_isAheadInSeason_78 (by decide) ?_
        exact V_iret X hr (iN_bool (Or.inr rfl)).1 ⟨by decide, by decide⟩ (by exact ⟨(asI_y (by unfold asP; omega)).symm, rfl⟩) dX4_isAheadInSeason_82 (by decide) (by decide)
    · skip
      refine V_aload_n X 0 rfl dX4_isAheadInSeason_51 rfl ?_
      refine V_get X (ci := 4) (67) (by decide) (rfl) (by decide) rfl (fun _ h => List.mem_cons_of_mem _ (List.mem_append_right _ h)) 7 (by decide) (List.mem_of_getElem? (i := 2) rfl) rfl rfl dX4_isAheadInSeason_52 ?_
      refine V_iload_n X 1 rfl dX4_isAheadInSeason_55 rfl ?_
      refine V_iald X (N := 6) (72) (by decide) (rfl) (rfl) (by decide) (a) (rfl) (by omega) dX4_isAheadInSeason_56 ?_
      refine V_aload_n X 0 rfl dX4_isAheadInSeason_57 rfl ?_
      refine V_get X (ci := 4) (67) (by decide) (rfl) (by decide) rfl (fun _ h => List.mem_cons_of_mem _ (List.mem_append_right _ h)) 7 (by decide) (List.mem_of_getElem? (i := 2) rfl) rfl rfl dX4_isAheadInSeason_58 ?_
      refine V_iload_n X 2 rfl dX4_isAheadInSeason_61 rfl ?_
      refine V_iald X (N := 6) (72) (by decide) (rfl) (rfl) (by decide) (b) (rfl) (by omega) dX4_isAheadInSeason_62 ?_
      refine V_icmp_le X 70 (hR _ _) (hR _ _) dX4_isAheadInSeason_63 (by decide) (fun q4 => ?_) (fun q4 => ?_)
      · skip
        refine V_iconst X dX4_isAheadInSeason_70 ?_
        exact V_iret X hr (iN_bool (Or.inl rfl)).1 ⟨by decide, by decide⟩ (by exact ⟨(asI_n (by unfold asP; omega)).symm, rfl⟩) dX4_isAheadInSeason_71 (by decide) (by decide)
      · skip
        refine V_iconst X dX4_isAheadInSeason_66 ?_
        refine V_goto X 71 dX4_isAheadInSeason_67 (by decide) ?_
        exact V_iret X hr (iN_bool (Or.inr rfl)).1 ⟨by decide, by decide⟩ (by exact ⟨(asI_y (by unfold asP; omega)).symm, rfl⟩) dX4_isAheadInSeason_71 (by decide) (by decide)
  · skip
    refine V_aload_n X 0 rfl dX4_isAheadInSeason_15 rfl ?_
    refine V_get X (ci := 4) (67) (by decide) (rfl) (by decide) rfl (fun _ h => List.mem_cons_of_mem _ (List.mem_append_right _ h)) 6 (by decide) (List.mem_of_getElem? (i := 1) rfl) rfl rfl dX4_isAheadInSeason_16 ?_
    refine V_iload_n X 1 rfl dX4_isAheadInSeason_19 rfl ?_
    refine V_iald X (N := 6) (71) (by decide) (rfl) (rfl) (by decide) (a) (rfl) (by omega) dX4_isAheadInSeason_20 ?_
    refine V_aload_n X 0 rfl dX4_isAheadInSeason_21 rfl ?_
    refine V_get X (ci := 4) (67) (by decide) (rfl) (by decide) rfl (fun _ h => List.mem_cons_of_mem _ (List.mem_append_right _ h)) 6 (by decide) (List.mem_of_getElem? (i := 1) rfl) rfl rfl dX4_isAheadInSeason_22 ?_
    refine V_iload_n X 2 rfl dX4_isAheadInSeason_25 rfl ?_
    refine V_iald X (N := 6) (71) (by decide) (rfl) (rfl) (by decide) (b) (rfl) (by omega) dX4_isAheadInSeason_26 ?_
    refine V_icmp_le X 34 (hR _ _) (hR _ _) dX4_isAheadInSeason_27 (by decide) (fun q5 => ?_) (fun q5 => ?_)
    · skip
      refine V_iconst X dX4_isAheadInSeason_34 ?_
      exact V_iret X hr (iN_bool (Or.inl rfl)).1 ⟨by decide, by decide⟩ (by exact ⟨(asI_n (by unfold asP; omega)).symm, rfl⟩) dX4_isAheadInSeason_35 (by decide) (by decide)
    · skip
      refine V_iconst X dX4_isAheadInSeason_30 ?_
      refine V_goto X 35 dX4_isAheadInSeason_31 (by decide) ?_
      exact V_iret X hr (iN_bool (Or.inr rfl)).1 ⟨by decide, by decide⟩ (by exact ⟨(asI_y (by unfold asP; omega)).symm, rfl⟩) dX4_isAheadInSeason_35 (by decide) (by decide)
set_option maxRecDepth 100000 in
set_option maxHeartbeats 4000000 in
theorem m_X4_driverBehind (g : Geo) (l : Launch) (hl9 : l.stackTraces = false) (σ : St) (hR : RG σ) (p : Int) (hp : R32 p) : Met l yX4_driverBehind wsX4_driverBehind ({ frames := 1, cells := 0, slots := 0, locals := 22 }) (va_Pc [.ref (ga g (67)), .int (iN (p))] (World g σ)) (QI g (fun z u => z = dbF (σ.1 71) (σ.1 72) p 6 ∧ u = σ)) 0 0 (gA g) := by
  refine V_met hl9 (by decide) rfl (Nat.le_of_ble_eq_true rfl) ?_
  intro p9 e9 s9 m9 b9 t9 c9 X hr _
  have hdb := dbF_b (p := σ.1 71) (w := σ.1 72) (pl := p) 6
  refine V_lv (lv' := [(0, .ref (ga g (67))), (1, .int (iN (p)))]) rfl ?_
  refine V_iconst X dX4_driverBehind_0 ?_
  refine V_istore_n X [(2, .int (iN (0))), (0, .ref (ga g (67))), (1, .int (iN (p)))] dX4_driverBehind_1 rfl (by decide) rfl ?_
  refine V_iconst X dX4_driverBehind_2 ?_
  refine V_istore_n X [(3, .int (iN (0))), (2, .int (iN (0))), (0, .ref (ga g (67))), (1, .int (iN (p)))] dX4_driverBehind_3 rfl (by decide) rfl ?_
  refine V_sub (lv' := [(0, .ref (ga g (67))), (1, .int (iN (p))), (2, .int (iN (0))), (3, .int (iN (0)))]) [2, 3, 1, 0] rfl ?_
  refine V_up (N := 6) (fun (i : Nat) (u : St) (lw : List (Nat × Value)) => σ = u ∧ [(0, .ref (ga g (67))), (1, .int (iN (p))), (2, .int (iN (dbF (σ.1 71) (σ.1 72) p i))), (3, .int (iN (((i : Nat) : Int))))] = lw ∧ (True)) (i0 := 0) (Nat.zero_le _) ⟨rfl, rfl, trivial⟩ ?_ ?_
  · skip
    rintro _ _ ⟨rfl, rfl, -⟩
    refine V_iload_n X 3 rfl dX4_driverBehind_4 rfl ?_
    refine V_bipush X (by decide) dX4_driverBehind_5 ?_
    refine V_icmp_ge X 56 ⟨by omega, by omega⟩ ⟨by decide, by decide⟩ dX4_driverBehind_7 (by decide) (fun _ => ?_) (fun h => absurd h (by decide))
    refine V_iload_n X 2 rfl dX4_driverBehind_56 rfl ?_
    exact V_iret X hr rfl ⟨by omega, by omega⟩ (by exact ⟨rfl, rfl⟩) dX4_driverBehind_57 (by decide) (by decide)
  · skip
    rintro i _ _ hiN ⟨rfl, rfl, -⟩ kk
    refine V_iload_n X 3 rfl dX4_driverBehind_4 rfl ?_
    refine V_bipush X (by decide) dX4_driverBehind_5 ?_
    refine V_icmp_ge X 56 ⟨by omega, by omega⟩ ⟨by decide, by decide⟩ dX4_driverBehind_7 (by decide) (fun h => absurd h (by omega)) (fun _ => ?_)
    refine V_iconst X dX4_driverBehind_10 ?_
    refine V_istore X [(4, .int (iN (0))), (0, .ref (ga g (67))), (1, .int (iN (p))), (2, .int (iN (dbF (σ.1 71) (σ.1 72) p i))), (3, .int (iN (((i : Nat) : Int))))] dX4_driverBehind_11 (by decide) rfl ?_
    refine V_iconst X dX4_driverBehind_13 ?_
    refine V_istore X [(5, .int (iN (0))), (4, .int (iN (0))), (0, .ref (ga g (67))), (1, .int (iN (p))), (2, .int (iN (dbF (σ.1 71) (σ.1 72) p i))), (3, .int (iN (((i : Nat) : Int))))] dX4_driverBehind_14 (by decide) rfl ?_
    refine V_sub (lv' := [(0, .ref (ga g (67))), (1, .int (iN (p))), (2, .int (iN (dbF (σ.1 71) (σ.1 72) p i))), (3, .int (iN (((i : Nat) : Int)))), (4, .int (iN (0))), (5, .int (iN (0)))]) [2, 3, 4, 5, 1, 0] rfl ?_
    refine V_up (N := 6) (fun (o : Nat) (u : St) (lw : List (Nat × Value)) => σ = u ∧ [(0, .ref (ga g (67))), (1, .int (iN (p))), (2, .int (iN (dbF (σ.1 71) (σ.1 72) p i))), (3, .int (iN (((i : Nat) : Int)))), (4, .int (iN (sumF (fun o => asI (σ.1 71) (σ.1 72) o i) o))), (5, .int (iN (((o : Nat) : Int))))] = lw ∧ (0 ≤ sumF (fun o => asI (σ.1 71) (σ.1 72) o i) o ∧ sumF (fun o => asI (σ.1 71) (σ.1 72) o i) o ≤ o)) (i0 := 0) (Nat.zero_le _) ⟨rfl, rfl, ⟨Int.le_refl 0, Int.le_refl 0⟩⟩ ?_ ?_
    · skip
      rintro _ _ ⟨rfl, rfl, hb⟩
      refine V_iload X 5 rfl dX4_driverBehind_16 ?_
      refine V_bipush X (by decide) dX4_driverBehind_18 ?_
      refine V_icmp_ge X 42 ⟨by omega, by omega⟩ ⟨by decide, by decide⟩ dX4_driverBehind_20 (by decide) (fun _ => ?_) (fun h => absurd h (by decide))
      refine V_iload X 4 rfl dX4_driverBehind_42 ?_
      refine V_iload_n X 1 rfl dX4_driverBehind_44 rfl ?_
      refine V_icmp_ne X 50 ⟨by omega, by omega⟩ hp dX4_driverBehind_45 (by decide) (fun q1 => ?_) (fun q1 => ?_)
      · skip
        refine V_iinc X [(3, .int (iN (((i : Nat) : Int) + 1))), (0, .ref (ga g (67))), (1, .int (iN (p))), (2, .int (iN (dbF (σ.1 71) (σ.1 72) p i))), (4, .int (iN (sumF (fun o => asI (σ.1 71) (σ.1 72) o i) 6))), (5, .int (iN (((6 : Nat) : Int))))] 3 (((i : Nat) : Int) + 1) (rfl) rfl dX4_driverBehind_50 (by decide) rfl ?_
        refine V_goto X 4 dX4_driverBehind_53 (by decide) ?_
        refine V_sub (lv' := [(0, .ref (ga g (67))), (1, .int (iN (p))), (2, .int (iN (dbF (σ.1 71) (σ.1 72) p i))), (3, .int (iN (((i : Nat) : Int) + 1)))]) [1, 2, 3, 0] rfl ?_
        refine V_lv (congrArg (fun q : Int => ([(0, .ref (ga g (67))), (1, .int (iN (p))), (2, .int (iN q)), (3, .int (iN (((i : Nat) : Int) + 1)))] : List (Nat × Value))) (show dbF (σ.1 71) (σ.1 72) p i = dbF (σ.1 71) (σ.1 72) p (i + 1) from by show _ = (if _ then _ else _); rw [if_neg (by omega)])) ?_
        refine V_lv (congrArg (fun q : Int => ([(0, .ref (ga g (67))), (1, .int (iN (p))), (2, .int (iN (dbF (σ.1 71) (σ.1 72) p (i + 1)))), (3, .int (iN q))] : List (Nat × Value))) (show ((i : Nat) : Int) + 1 = (((i + 1) : Nat) : Int) from by omega)) ?_
        exact kk _ _ ⟨rfl, rfl, trivial⟩
      · skip
        refine V_iload_n X 3 rfl dX4_driverBehind_48 rfl ?_
        refine V_istore_n X [(2, .int (iN (((i : Nat) : Int)))), (0, .ref (ga g (67))), (1, .int (iN (p))), (3, .int (iN (((i : Nat) : Int)))), (4, .int (iN (sumF (fun o => asI (σ.1 71) (σ.1 72) o i) 6))), (5, .int (iN (((6 : Nat) : Int))))] dX4_driverBehind_49 rfl (by decide) rfl ?_
        refine V_iinc X [(3, .int (iN (((i : Nat) : Int) + 1))), (2, .int (iN (((i : Nat) : Int)))), (0, .ref (ga g (67))), (1, .int (iN (p))), (4, .int (iN (sumF (fun o => asI (σ.1 71) (σ.1 72) o i) 6))), (5, .int (iN (((6 : Nat) : Int))))] 3 (((i : Nat) : Int) + 1) (rfl) rfl dX4_driverBehind_50 (by decide) rfl ?_
        refine V_goto X 4 dX4_driverBehind_53 (by decide) ?_
        refine V_sub (lv' := [(0, .ref (ga g (67))), (1, .int (iN (p))), (2, .int (iN (((i : Nat) : Int)))), (3, .int (iN (((i : Nat) : Int) + 1)))]) [2, 3, 1, 0] rfl ?_
        refine V_lv (congrArg (fun q : Int => ([(0, .ref (ga g (67))), (1, .int (iN (p))), (2, .int (iN q)), (3, .int (iN (((i : Nat) : Int) + 1)))] : List (Nat × Value))) (show ((i : Nat) : Int) = dbF (σ.1 71) (σ.1 72) p (i + 1) from by show _ = (if _ then _ else _); rw [if_pos (by omega)])) ?_
        refine V_lv (congrArg (fun q : Int => ([(0, .ref (ga g (67))), (1, .int (iN (p))), (2, .int (iN (dbF (σ.1 71) (σ.1 72) p (i + 1)))), (3, .int (iN q))] : List (Nat × Value))) (show ((i : Nat) : Int) + 1 = (((i + 1) : Nat) : Int) from by omega)) ?_
        exact kk _ _ ⟨rfl, rfl, trivial⟩
    · skip
      rintro o _ _ ho ⟨rfl, rfl, hb⟩ kk2
      refine V_iload X 5 rfl dX4_driverBehind_16 ?_
      refine V_bipush X (by decide) dX4_driverBehind_18 ?_
      refine V_icmp_ge X 42 ⟨by omega, by omega⟩ ⟨by decide, by decide⟩ dX4_driverBehind_20 (by decide) (fun h => absurd h (by omega)) (fun _ => ?_)
      refine V_aload_n X 0 rfl dX4_driverBehind_23 rfl ?_
      refine V_iload X 5 rfl dX4_driverBehind_24 ?_
      refine V_iload_n X 3 rfl dX4_driverBehind_26 rfl ?_
      refine V_callV_I X (na := 2) (ci := 4) (b0 := 67) (by decide) (rfl) (by decide) rfl (m_X4_isAheadInSeason g l hl9 σ hR o i (by omega) (by omega)) gX4_driverBehind_X4_isAheadInSeason rfl rfl rfl (by decide +kernel) ⟨Nat.le_of_ble_eq_true rfl, Nat.le_of_ble_eq_true rfl⟩ rfl rfl (Nat.le_of_ble_eq_true rfl) ⟨Nat.le_of_ble_eq_true rfl, Nat.le_of_ble_eq_true rfl⟩ dX4_driverBehind_27 (fun z2 u3 z2r hp4 => ?_)
      obtain ⟨hz, hu5⟩ := hp4
      have hu5 := hu5.symm
      subst hu5
      rcases Classical.em (z2 = 0) with hq | hq
      · skip
        subst hq
        refine V_if_eq X 36 ⟨by decide, by decide⟩ dX4_driverBehind_30 (by decide) (fun _ => ?_) (fun h => absurd h (by first | decide | omega))
        refine V_iinc X [(5, .int (iN (((o : Nat) : Int) + 1))), (0, .ref (ga g (67))), (1, .int (iN (p))), (2, .int (iN (dbF (σ.1 71) (σ.1 72) p i))), (3, .int (iN (((i : Nat) : Int)))), (4, .int (iN (sumF (fun o => asI (σ.1 71) (σ.1 72) o i) o)))] 5 (((o : Nat) : Int) + 1) (rfl) rfl dX4_driverBehind_36 (by decide) rfl ?_
        refine V_goto X 16 dX4_driverBehind_39 (by decide) ?_
        refine V_sub (lv' := [(0, .ref (ga g (67))), (1, .int (iN (p))), (2, .int (iN (dbF (σ.1 71) (σ.1 72) p i))), (3, .int (iN (((i : Nat) : Int)))), (4, .int (iN (sumF (fun o => asI (σ.1 71) (σ.1 72) o i) o))), (5, .int (iN (((o : Nat) : Int) + 1)))]) [1, 2, 3, 4, 5, 0] rfl ?_
        refine V_lv (congrArg (fun q : Int => ([(0, .ref (ga g (67))), (1, .int (iN (p))), (2, .int (iN (dbF (σ.1 71) (σ.1 72) p i))), (3, .int (iN (((i : Nat) : Int)))), (4, .int (iN q)), (5, .int (iN (((o : Nat) : Int) + 1)))] : List (Nat × Value))) (show sumF (fun o => asI (σ.1 71) (σ.1 72) o i) o = sumF (fun o => asI (σ.1 71) (σ.1 72) o i) (o + 1) from by show _ = sumF _ o + asI _ _ _ _; rw [← hz]; omega)) ?_
        refine V_lv (congrArg (fun q : Int => ([(0, .ref (ga g (67))), (1, .int (iN (p))), (2, .int (iN (dbF (σ.1 71) (σ.1 72) p i))), (3, .int (iN (((i : Nat) : Int)))), (4, .int (iN (sumF (fun o => asI (σ.1 71) (σ.1 72) o i) (o + 1)))), (5, .int (iN q))] : List (Nat × Value))) (show ((o : Nat) : Int) + 1 = (((o + 1) : Nat) : Int) from by omega)) ?_
        exact kk2 _ _ ⟨rfl, rfl, sum01_b (fun l => asI_b) hb⟩
      · skip
        have hq1 : z2 = 1 := by have := asI_b (p := σ.1 71) (w := σ.1 72) (a := o) (b := i); omega
        subst hq1
        refine V_if_eq X 36 ⟨by decide, by decide⟩ dX4_driverBehind_30 (by decide) (fun h => absurd h (by first | decide | omega)) (fun _ => ?_)
        refine V_iinc X [(4, .int (iN (sumF (fun o => asI (σ.1 71) (σ.1 72) o i) o + 1))), (0, .ref (ga g (67))), (1, .int (iN (p))), (2, .int (iN (dbF (σ.1 71) (σ.1 72) p i))), (3, .int (iN (((i : Nat) : Int)))), (5, .int (iN (((o : Nat) : Int))))] 4 (sumF (fun o => asI (σ.1 71) (σ.1 72) o i) o + 1) (rfl) rfl dX4_driverBehind_33 (by decide) rfl ?_
        refine V_iinc X [(5, .int (iN (((o : Nat) : Int) + 1))), (4, .int (iN (sumF (fun o => asI (σ.1 71) (σ.1 72) o i) o + 1))), (0, .ref (ga g (67))), (1, .int (iN (p))), (2, .int (iN (dbF (σ.1 71) (σ.1 72) p i))), (3, .int (iN (((i : Nat) : Int))))] 5 (((o : Nat) : Int) + 1) (rfl) rfl dX4_driverBehind_36 (by decide) rfl ?_
        refine V_goto X 16 dX4_driverBehind_39 (by decide) ?_
        refine V_sub (lv' := [(0, .ref (ga g (67))), (1, .int (iN (p))), (2, .int (iN (dbF (σ.1 71) (σ.1 72) p i))), (3, .int (iN (((i : Nat) : Int)))), (4, .int (iN (sumF (fun o => asI (σ.1 71) (σ.1 72) o i) o + 1))), (5, .int (iN (((o : Nat) : Int) + 1)))]) [2, 3, 4, 5, 1, 0] rfl ?_
        refine V_lv (congrArg (fun q : Int => ([(0, .ref (ga g (67))), (1, .int (iN (p))), (2, .int (iN (dbF (σ.1 71) (σ.1 72) p i))), (3, .int (iN (((i : Nat) : Int)))), (4, .int (iN q)), (5, .int (iN (((o : Nat) : Int) + 1)))] : List (Nat × Value))) (show sumF (fun o => asI (σ.1 71) (σ.1 72) o i) o + 1 = sumF (fun o => asI (σ.1 71) (σ.1 72) o i) (o + 1) from by show _ = sumF _ o + asI _ _ _ _; rw [← hz])) ?_
        refine V_lv (congrArg (fun q : Int => ([(0, .ref (ga g (67))), (1, .int (iN (p))), (2, .int (iN (dbF (σ.1 71) (σ.1 72) p i))), (3, .int (iN (((i : Nat) : Int)))), (4, .int (iN (sumF (fun o => asI (σ.1 71) (σ.1 72) o i) (o + 1)))), (5, .int (iN q))] : List (Nat × Value))) (show ((o : Nat) : Int) + 1 = (((o + 1) : Nat) : Int) from by omega)) ?_
        exact kk2 _ _ ⟨rfl, rfl, sum01_b (fun l => asI_b) hb⟩
