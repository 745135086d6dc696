/-! ===== plain words: rides, laps ===== -/
theorem spdF_b {top pull s i : Int} (h1 : 0 ≤ s) (h2 : s ≤ 9) (h3 : 0 ≤ pull) (h4 : 0 ≤ top) (h5 : top ≤ 9) : 0 ≤ spdF top pull s i ∧ spdF top pull s i ≤ 9 := by
  unfold spdF
  split
  · split <;> omega
  · split
    · split <;> omega
    · omega
theorem limG_b {E L : Nat → Int} {p : Int} {k : Nat} (h : ∀ i, i < k → 0 ≤ L i ∧ L i ≤ 9) : ∀ d i, i + d ≤ k → 0 ≤ limG E L p i d ∧ limG E L p i d ≤ 9 := by
  intro d
  induction d with
  | zero => intro i _; simp [limG]
  | succ d ih =>
    intro i hi
    rw [limG]
    split
    · exact h i (by omega)
    · exact ih (i + 1) (by omega)
def cpyT (σ : St) (a i : Nat) : St := (fun b => if b = a then (fun k => if k < i then σ.1 3 k else σ.1 a k) else σ.1 b, σ.2)
theorem cpyT_0 (σ : St) (a : Nat) : cpyT σ a 0 = σ := by
  unfold cpyT
  have : (fun b => if b = a then (fun k => if k < 0 then σ.1 3 k else σ.1 a k) else σ.1 b) = σ.1 := by
    funext b
    by_cases h : b = a
    · subst h; funext k; simp
    · simp [h]
  rw [this]
theorem cpyT_s {σ : St} {a i : Nat} : sw (cpyT σ a i) a i (σ.1 3 i) = cpyT σ a (i + 1) := by
  unfold cpyT sw ur
  simp only
  congr 1
  funext b
  by_cases h : b = a
  · subst h
    simp only [if_true]
    funext k
    by_cases h1 : k = i
    · subst h1; simp
    · by_cases h2 : k < i
      · simp [h1, h2, show k < i + 1 by omega]
      · simp [h1, h2, show ¬ k < i + 1 by omega]
  · simp [h]
theorem cpyT_n {σ : St} {a b i : Nat} (h : b ≠ a) : (cpyT σ a i).1 b = σ.1 b := by simp [cpyT, h]
def unlF (ia ib : Nat → Int) (tb : Int) (T : Nat) : Int := sumF (fun i => if tb ≤ (i : Int) ∨ ia i ≠ ib i then 1 else 0) T
def svF (b s : Int) : Int := if 0 < s then (100 * b) / s else 0
/-- what a step of a ride leaves: place, speed, ticks, over -/
abbrev RS : Type := Int × Int × Int × Bool
def rsF (len : Int) (lim : Int → Int) (top pull grip : Int) (r : RS) (i : Int) : RS :=
  if len ≤ r.1 + spdF top pull r.2.1 i then (r.1 + spdF top pull r.2.1 i, spdF top pull r.2.1 i, r.2.2.1 + 1, true)
  else (r.1 + spdF top pull r.2.1 i, (if lim (r.1 + spdF top pull r.2.1 i) + grip < spdF top pull r.2.1 i then spdF top pull r.2.1 i / 2 else spdF top pull r.2.1 i), r.2.2.1 + 1, false)
def rfF (len : Int) (lim : Int → Int) (top pull grip : Int) (inp : Nat → Int) : Nat → RS
  | 0 => (0, 0, 0, false)
  | i + 1 => if (rfF len lim top pull grip inp i).2.2.2 = true then rfF len lim top pull grip inp i else rsF len lim top pull grip (rfF len lim top pull grip inp i) (inp i)
def tmF (len : Int) (r : RS) : Int := if r.2.2.2 = true then 100 * r.2.2.1 - svF (r.1 - len) r.2.1 else 0
theorem rfF_b {len : Int} {lim : Int → Int} {top pull grip : Int} {inp : Nat → Int} (h3 : 0 ≤ pull) (h4 : 0 ≤ top) (h5 : top ≤ 9) : ∀ i : Nat, 0 ≤ (rfF len lim top pull grip inp i).1 ∧ (rfF len lim top pull grip inp i).1 ≤ 9 * i ∧ 0 ≤ (rfF len lim top pull grip inp i).2.1 ∧ (rfF len lim top pull grip inp i).2.1 ≤ 9 ∧ 0 ≤ (rfF len lim top pull grip inp i).2.2.1 ∧ (rfF len lim top pull grip inp i).2.2.1 ≤ i := by
  intro i
  induction i with
  | zero => simp [rfF]
  | succ i ih =>
    rw [rfF]
    obtain ⟨a1, a2, a3, a4, a5, a6⟩ := ih
    split
    · refine ⟨a1, ?_, a3, a4, a5, ?_⟩ <;> omega
    · have hb := spdF_b (i := inp i) a3 a4 h3 h4 h5
      unfold rsF
      split
      · refine ⟨?_, ?_, hb.1, hb.2, ?_, ?_⟩ <;> simp only <;> omega
      · refine ⟨?_, ?_, ?_, ?_, ?_, ?_⟩ <;> simp only
        · omega
        · omega
        · split <;> omega
        · split <;> omega
        · omega
        · omega
theorem rfF_over {len : Int} {lim : Int → Int} {top pull grip : Int} {inp : Nat → Int} {i : Nat} (h : (rfF len lim top pull grip inp i).2.2.2 = true) : ∀ d, rfF len lim top pull grip inp (i + d) = rfF len lim top pull grip inp i := by
  intro d
  induction d with
  | zero => rfl
  | succ d ih =>
    show rfF len lim top pull grip inp ((i + d) + 1) = _
    rw [rfF, ih, if_pos h]
/-- the class's ride of a lap on the track t by the car c -/
def rideC (σ : St) (t c k : Nat) (inp : Nat → Int) : Nat → RS := rfF (σ.1 (73 + 3 * t) 3) (fun p => limG (σ.1 (73 + 3 * t + 1)) (σ.1 (73 + 3 * t + 2)) p 0 k) (σ.1 (85 + c) 0) (σ.1 (85 + c) 1) (σ.1 (85 + c) 2) inp
/-- a track and a car as a ride needs them -/
def TC (σ : St) (t c k : Nat) : Prop := t < 4 ∧ c < 4 ∧ k ≤ 12 ∧ σ.1 (73 + 3 * t) 2 = (k : Int) ∧ 0 ≤ σ.1 (73 + 3 * t) 3 ∧ σ.1 (73 + 3 * t) 3 ≤ 1000 ∧ (∀ i, i < k → 0 ≤ σ.1 (73 + 3 * t + 2) i ∧ σ.1 (73 + 3 * t + 2) i ≤ 9) ∧ 0 ≤ σ.1 (85 + c) 0 ∧ σ.1 (85 + c) 0 ≤ 9 ∧ 0 ≤ σ.1 (85 + c) 1 ∧ σ.1 (85 + c) 1 ≤ 9 ∧ 0 ≤ σ.1 (85 + c) 2 ∧ σ.1 (85 + c) 2 ≤ 9
/-- only the ride's row has changed -/
def FrR (σ u : St) : Prop := (∀ a, a ≠ 4 → u.1 a = σ.1 a) ∧ u.2 = σ.2 ∧ RG u
theorem FrR.sw {σ u : St} (h : FrR σ u) (k : Nat) {v : Int} (hv : R32 v) : FrR σ (sw u 4 k v) := ⟨fun a ha => by rw [sw_ne ha]; exact h.1 a ha, h.2.1, h.2.2.sw 4 k hv⟩
theorem FrR.tr {σ u v : St} (h : FrR σ u) (h2 : FrR u v) : FrR σ v := ⟨fun a ha => (h2.1 a ha).trans (h.1 a ha), h2.2.1.trans h.2.1, h2.2.2⟩
theorem TC.fr {σ u : St} {t c k : Nat} (h : TC σ t c k) (f : FrR σ u) : TC u t c k := by
  obtain ⟨h1, h2, h3, h4, h5, h6, h7, h8⟩ := h
  refine ⟨h1, h2, h3, ?_, ?_, ?_, ?_, ?_⟩
  · rw [f.1 _ (by omega)]; exact h4
  · rw [f.1 _ (by omega)]; exact h5
  · rw [f.1 _ (by omega)]; exact h6
  · rw [f.1 _ (by omega)]; exact h7
  · rw [f.1 _ (by omega)]; exact h8
theorem rideC_fr {σ u : St} {t c k : Nat} {inp : Nat → Int} (ht : t < 4) (f : FrR σ u) : rideC u t c k inp = rideC σ t c k inp := by
  unfold rideC
  rw [f.1 (73 + 3 * t) (by omega), f.1 (73 + 3 * t + 1) (by omega), f.1 (73 + 3 * t + 2) (by omega), f.1 (85 + c) (by omega)]

set_option maxRecDepth 100000 in
set_option maxHeartbeats 4000000 in
theorem m_X5_append (g : Geo) (l : Launch) (hl9 : l.stackTraces = false) (σ : St) (hR : RG σ) (t : Nat) (ht : t < 4) (k : Nat) (hk : σ.1 (73 + 3 * t) 2 = (k : Int)) (hk12 : k < 12) (len lim : Int) : Met l yX5_append wsX5_append ({ frames := 0, cells := 0, slots := 0, locals := 0 }) (va_Pc [.ref (ga g (73 + 3 * t)), .int (iN (len)), .int (iN (lim))] (World g σ)) (QV g (fun u => u = sw (sw (sw (sw σ (73 + 3 * t) 3 (σ.1 (73 + 3 * t) 3 + len)) (73 + 3 * t + 1) k (σ.1 (73 + 3 * t) 3 + len)) (73 + 3 * t + 2) k lim) (73 + 3 * t) 2 (σ.1 (73 + 3 * t) 2 + 1))) 0 0 (gA g) := by
  refine V_met hl9 (by decide) rfl (Nat.le_of_ble_eq_true rfl) ?_
  intro p9 e9 s9 m9 b9 t9 c9 X hr _
  refine V_lv (lv' := [(0, .ref (ga g (73 + 3 * t))), (1, .int (iN (len))), (2, .int (iN (lim)))]) rfl ?_
  refine V_aload_n X 0 rfl dX5_append_0 rfl ?_
  refine V_get X (ci := 5) (73 + 3 * t) (by omega) (kd_tr ht) (by decide) rfl (fun _ h => List.mem_cons_of_mem _ (List.mem_append_right _ h)) 2 (by decide) (List.mem_of_getElem? (i := 1) rfl) rfl rfl dX5_append_1 ?_
  refine V_bipush X (by decide) dX5_append_4 ?_
  refine V_icmp_ge X 52 (hR (73 + 3 * t) (2)) ⟨by decide, by decide⟩ dX5_append_6 (by decide) (fun h => absurd h (by omega)) (fun _ => ?_)
  refine V_aload_n X 0 rfl dX5_append_9 rfl ?_
  refine V_dup X rfl dX5_append_10 ?_
  refine V_get X (ci := 5) (73 + 3 * t) (by omega) (kd_tr ht) (by decide) rfl (fun _ h => List.mem_cons_of_mem _ (List.mem_append_right _ h)) 3 (by decide) (List.mem_of_getElem? (i := 2) rfl) rfl rfl dX5_append_11 ?_
  refine V_iload_n X 1 rfl dX5_append_14 rfl ?_
  refine V_iadd X dX5_append_15 ?_
  refine V_put X (ci := 5) (73 + 3 * t) (by omega) (kd_tr ht) (by decide) rfl (fun _ h => List.mem_cons_of_mem _ (List.mem_append_right _ h)) 3 (by decide) (List.mem_of_getElem? (i := 2) rfl) rfl tyX5 tyX5_ok nmX5 rfl rfl rfl rfl rfl (Nat.le_of_ble_eq_true rfl) dX5_append_16 ?_
  refine V_aload_n X 0 rfl dX5_append_19 rfl ?_
  refine V_get X (ci := 5) (73 + 3 * t) (by omega) (kd_tr ht) (by decide) rfl (fun _ h => List.mem_cons_of_mem _ (List.mem_append_right _ h)) 0 (by decide) (List.mem_of_getElem? (i := 3) rfl) rfl rfl dX5_append_20 ?_
  refine V_aload_n X 0 rfl dX5_append_23 rfl ?_
  refine V_get X (ci := 5) (73 + 3 * t) (by omega) (kd_tr ht) (by decide) rfl (fun _ h => List.mem_cons_of_mem _ (List.mem_append_right _ h)) 2 (by decide) (List.mem_of_getElem? (i := 1) rfl) rfl rfl dX5_append_24 ?_
  refine V_top (b := σ.1 (73 + 3 * t) (2)) (rd_k (by decide)) ?_
  refine V_aload_n X 0 rfl dX5_append_27 rfl ?_
  refine V_get X (ci := 5) (73 + 3 * t) (by omega) (kd_tr ht) (by decide) rfl (fun _ h => List.mem_cons_of_mem _ (List.mem_append_right _ h)) 3 (by decide) (List.mem_of_getElem? (i := 2) rfl) rfl rfl dX5_append_28 ?_
  refine V_top (b := (σ.1 (73 + 3 * t) (3)) + len) rd_s ?_
  refine V_iast X (N := 12) (73 + 3 * t + 1) (by omega) (kd_tr1 ht) (ln_tr1 ht) (by decide) (k) (hk) (hk12) dX5_append_31 ?_
  refine V_aload_n X 0 rfl dX5_append_32 rfl ?_
  refine V_get X (ci := 5) (73 + 3 * t) (by omega) (kd_tr ht) (by decide) rfl (fun _ h => List.mem_cons_of_mem _ (List.mem_append_right _ h)) 1 (by decide) (List.mem_of_getElem? (i := 4) rfl) rfl rfl dX5_append_33 ?_
  refine V_aload_n X 0 rfl dX5_append_36 rfl ?_
  refine V_get X (ci := 5) (73 + 3 * t) (by omega) (kd_tr ht) (by decide) rfl (fun _ h => List.mem_cons_of_mem _ (List.mem_append_right _ h)) 2 (by decide) (List.mem_of_getElem? (i := 1) rfl) rfl rfl dX5_append_37 ?_
  refine V_top (b := σ.1 (73 + 3 * t) (2)) (Eq.trans (rd_n (by omega)) (rd_k (by decide))) ?_
  refine V_iload_n X 2 rfl dX5_append_40 rfl ?_
  refine V_iast X (N := 12) (73 + 3 * t + 2) (by omega) (kd_tr2 ht) (ln_tr2 ht) (by decide) (k) (hk) (hk12) dX5_append_41 ?_
  refine V_aload_n X 0 rfl dX5_append_42 rfl ?_
  refine V_dup X rfl dX5_append_43 ?_
  refine V_get X (ci := 5) (73 + 3 * t) (by omega) (kd_tr ht) (by decide) rfl (fun _ h => List.mem_cons_of_mem _ (List.mem_append_right _ h)) 2 (by decide) (List.mem_of_getElem? (i := 1) rfl) rfl rfl dX5_append_44 ?_
  refine V_top (b := σ.1 (73 + 3 * t) (2)) (Eq.trans (rd_n (by omega)) (Eq.trans (rd_n (by omega)) (rd_k (by decide)))) ?_
  refine V_iconst X dX5_append_47 ?_
  refine V_iadd X dX5_append_48 ?_
  refine V_put X (ci := 5) (73 + 3 * t) (by omega) (kd_tr ht) (by decide) rfl (fun _ h => List.mem_cons_of_mem _ (List.mem_append_right _ h)) 2 (by decide) (List.mem_of_getElem? (i := 1) rfl) rfl tyX5 tyX5_ok nmX5 rfl rfl rfl rfl rfl (Nat.le_of_ble_eq_true rfl) dX5_append_49 ?_
  exact V_vret X hr (by exact rfl) dX5_append_52 (by decide) (by decide)
set_option maxRecDepth 100000 in
set_option maxHeartbeats 4000000 in
theorem m_X5_limitOf (g : Geo) (l : Launch) (hl9 : l.stackTraces = false) (σ : St) (hR : RG σ) (t : Nat) (ht : t < 4) (k : Nat) (hk : σ.1 (73 + 3 * t) 2 = (k : Int)) (hk12 : k ≤ 12) (p : Int) (hp : R32 p) : Met l yX5_limitOf wsX5_limitOf ({ frames := 0, cells := 0, slots := 0, locals := 0 }) (va_Pc [.ref (ga g (73 + 3 * t)), .int (iN (p))] (World g σ)) (QI g (fun z u => z = limG (σ.1 (73 + 3 * t + 1)) (σ.1 (73 + 3 * t + 2)) p 0 k ∧ u = σ)) 0 0 (gA g) := by
  refine V_met hl9 (by decide) rfl (Nat.le_of_ble_eq_true rfl) ?_
  intro p9 e9 s9 m9 b9 t9 c9 X hr _
  refine V_lv (lv' := [(0, .ref (ga g (73 + 3 * t))), (1, .int (iN (p)))]) rfl ?_
  refine V_iconst X dX5_limitOf_0 ?_
  refine V_istore_n X [(2, .int (iN (0))), (0, .ref (ga g (73 + 3 * t))), (1, .int (iN (p)))] dX5_limitOf_1 rfl (by decide) rfl ?_
  refine V_sub (lv' := [(0, .ref (ga g (73 + 3 * t))), (1, .int (iN (p))), (2, .int (iN (0)))]) [1, 2, 0] rfl ?_
  refine V_up (N := k) (fun (i : Nat) (u : St) (lw : List (Nat × Value)) => σ = u ∧ [(0, .ref (ga g (73 + 3 * t))), (1, .int (iN (p))), (2, .int (iN (((i : Nat) : Int))))] = lw ∧ (limG (σ.1 (73 + 3 * t + 1)) (σ.1 (73 + 3 * t + 2)) p 0 k = limG (σ.1 (73 + 3 * t + 1)) (σ.1 (73 + 3 * t + 2)) p i (k - i))) (Nat.zero_le _) ⟨rfl, rfl, rfl⟩ ?_ ?_
  · skip
    rintro _ _ ⟨rfl, rfl, hinv⟩
    refine V_iload_n X 2 rfl dX5_limitOf_2 rfl ?_
    refine V_aload_n X 0 rfl dX5_limitOf_3 rfl ?_
    refine V_get X (ci := 5) (73 + 3 * t) (by omega) (kd_tr ht) (by decide) rfl (fun _ h => List.mem_cons_of_mem _ (List.mem_append_right _ h)) 2 (by decide) (List.mem_of_getElem? (i := 1) rfl) rfl rfl dX5_limitOf_4 ?_
    refine V_icmp_ge X 33 ⟨by omega, by omega⟩ (hR (73 + 3 * t) (2)) dX5_limitOf_7 (by decide) (fun _ => ?_) (fun h => absurd h (by omega))
    refine V_iconst X dX5_limitOf_33 ?_
    exact V_iret X hr rfl ⟨by decide, by decide⟩ (by exact ⟨by rw [hinv, Nat.sub_self, limG], rfl⟩) dX5_limitOf_34 (by decide) (by decide)
  · skip
    rintro i _ _ hiN ⟨rfl, rfl, hinv⟩ kk
    refine V_iload_n X 2 rfl dX5_limitOf_2 rfl ?_
    refine V_aload_n X 0 rfl dX5_limitOf_3 rfl ?_
    refine V_get X (ci := 5) (73 + 3 * t) (by omega) (kd_tr ht) (by decide) rfl (fun _ h => List.mem_cons_of_mem _ (List.mem_append_right _ h)) 2 (by decide) (List.mem_of_getElem? (i := 1) rfl) rfl rfl dX5_limitOf_4 ?_
    refine V_icmp_ge X 33 ⟨by omega, by omega⟩ (hR (73 + 3 * t) (2)) dX5_limitOf_7 (by decide) (fun h => absurd h (by omega)) (fun _ => ?_)
    refine V_iload_n X 1 rfl dX5_limitOf_10 rfl ?_
    refine V_aload_n X 0 rfl dX5_limitOf_11 rfl ?_
    refine V_get X (ci := 5) (73 + 3 * t) (by omega) (kd_tr ht) (by decide) rfl (fun _ h => List.mem_cons_of_mem _ (List.mem_append_right _ h)) 0 (by decide) (List.mem_of_getElem? (i := 2) rfl) rfl rfl dX5_limitOf_12 ?_
    refine V_iload_n X 2 rfl dX5_limitOf_15 rfl ?_
    refine V_iald X (N := 12) (73 + 3 * t + 1) (by omega) (kd_tr1 ht) (ln_tr1 ht) (by decide) (i) (rfl) (by omega) dX5_limitOf_16 ?_
    refine V_icmp_ge X 27 hp (hR (73 + 3 * t + 1) (i)) dX5_limitOf_17 (by decide) (fun q1 => ?_) (fun q1 => ?_)
    · skip
      refine V_iinc X [(2, .int (iN (((i : Nat) : Int) + 1))), (0, .ref (ga g (73 + 3 * t))), (1, .int (iN (p)))] 2 (((i : Nat) : Int) + 1) (rfl) rfl dX5_limitOf_27 (by decide) rfl ?_
      refine V_goto X 2 dX5_limitOf_30 (by decide) ?_
      refine V_sub (lv' := [(0, .ref (ga g (73 + 3 * t))), (1, .int (iN (p))), (2, .int (iN (((i : Nat) : Int) + 1)))]) [1, 2, 0] rfl ?_
      refine V_lv (congrArg (fun q : Int => ([(0, .ref (ga g (73 + 3 * t))), (1, .int (iN (p))), (2, .int (iN q))] : List (Nat × Value))) (show ((i : Nat) : Int) + 1 = (((i + 1) : Nat) : Int) from by omega)) ?_
      exact kk _ _ ⟨rfl, rfl, by rw [hinv, show k - i = (k - (i + 1)) + 1 by omega, limG, if_neg (by omega)]⟩
    · skip
      refine V_aload_n X 0 rfl dX5_limitOf_20 rfl ?_
      refine V_get X (ci := 5) (73 + 3 * t) (by omega) (kd_tr ht) (by decide) rfl (fun _ h => List.mem_cons_of_mem _ (List.mem_append_right _ h)) 1 (by decide) (List.mem_of_getElem? (i := 3) rfl) rfl rfl dX5_limitOf_21 ?_
      refine V_iload_n X 2 rfl dX5_limitOf_24 rfl ?_
      refine V_iald X (N := 12) (73 + 3 * t + 2) (by omega) (kd_tr2 ht) (ln_tr2 ht) (by decide) (i) (rfl) (by omega) dX5_limitOf_25 ?_
      exact V_iret X hr rfl (hR (73 + 3 * t + 2) (i)) (by exact ⟨by rw [hinv, show k - i = (k - (i + 1)) + 1 by omega, limG, if_pos (by omega)], rfl⟩) dX5_limitOf_26 (by decide) (by decide)
set_option maxRecDepth 100000 in
set_option maxHeartbeats 4000000 in
theorem m_X2_counted (g : Geo) (l : Launch) (hl9 : l.stackTraces = false) (σ : St) (hR : RG σ) (j : Nat) (hj : j < 30) (h1 : -2147483648 ≤ σ.1 (7 + 2 * j) 2 + σ.1 (7 + 2 * j) 8) (h2 : σ.1 (7 + 2 * j) 2 + σ.1 (7 + 2 * j) 8 ≤ 2147483647) : Met l yX2_counted wsX2_counted ({ frames := 0, cells := 0, slots := 0, locals := 0 }) (va_Pc [.ref (ga g (7 + 2 * j))] (World g σ)) (QI g (fun z u => z = σ.1 (7 + 2 * j) 2 + σ.1 (7 + 2 * j) 8 ∧ u = σ)) 0 0 (gA g) := by
  refine V_met hl9 (by decide) rfl (Nat.le_of_ble_eq_true rfl) ?_
  intro p9 e9 s9 m9 b9 t9 c9 X hr _
  refine V_lv (lv' := [(0, .ref (ga g (7 + 2 * j)))]) rfl ?_
  refine V_aload_n X 0 rfl dX2_counted_0 rfl ?_
  refine V_get X (ci := 2) (7 + 2 * j) (by omega) (kd_lap hj) (by decide) rfl (fun _ h => List.mem_cons_of_mem _ (List.mem_append_right _ h)) 2 (by decide) (List.mem_of_getElem? (i := 1) rfl) rfl rfl dX2_counted_1 ?_
  refine V_aload_n X 0 rfl dX2_counted_4 rfl ?_
  refine V_get X (ci := 2) (7 + 2 * j) (by omega) (kd_lap hj) (by decide) rfl (fun _ h => List.mem_cons_of_mem _ (List.mem_append_right _ h)) 8 (by decide) (List.mem_of_getElem? (i := 2) rfl) rfl rfl dX2_counted_5 ?_
  refine V_iadd X dX2_counted_8 ?_
  exact V_iret X hr rfl ⟨by omega, by omega⟩ (by exact ⟨rfl, rfl⟩) dX2_counted_9 (by decide) (by decide)
set_option maxRecDepth 100000 in
set_option maxHeartbeats 4000000 in
theorem m_X3_finish (g : Geo) (l : Launch) (hl9 : l.stackTraces = false) (σ : St) (hR : RG σ) (b : Int) (h1 : 0 ≤ b) (h2 : b ≤ 10000) (h3 : σ.1 4 1 ≤ 1000) : Met l yX3_finish wsX3_finish ({ frames := 0, cells := 0, slots := 0, locals := 0 }) (va_Pc [.ref (ga g (4)), .int (iN (b))] (World g σ)) (QV g (fun u => u = sw (sw σ 4 4 1) 4 3 (100 * σ.1 4 2 - svF b (σ.1 4 1)))) 0 0 (gA g) := by
  refine V_met hl9 (by decide) rfl (Nat.le_of_ble_eq_true rfl) ?_
  intro p9 e9 s9 m9 b9 t9 c9 X hr _
  refine V_lv (lv' := [(0, .ref (ga g (4))), (1, .int (iN (b)))]) rfl ?_
  refine V_aload_n X 0 rfl dX3_finish_0 rfl ?_
  refine V_iconst X dX3_finish_1 ?_
  refine V_put X (ci := 3) (4) (by decide) (rfl) (by decide) rfl (fun _ h => List.mem_cons_of_mem _ (List.mem_append_right _ h)) 4 (by decide) (List.mem_of_getElem? (i := 1) rfl) rfl tyX3 tyX3_ok nmX3 rfl rfl (iN_bool (Or.inr rfl)).1 (iN_bool (Or.inr rfl)).2 rfl (Nat.le_of_ble_eq_true rfl) dX3_finish_2 ?_
  refine V_aload_n X 0 rfl dX3_finish_5 rfl ?_
  refine V_get X (ci := 3) (4) (by decide) (rfl) (by decide) rfl (fun _ h => List.mem_cons_of_mem _ (List.mem_append_right _ h)) 1 (by decide) (List.mem_of_getElem? (i := 2) rfl) rfl rfl dX3_finish_6 ?_
  refine V_top (b := σ.1 4 1) (rd_k (by decide)) ?_
  refine V_if_le X 24 (hR 4 1) dX3_finish_9 (by decide) (fun q1 => ?_) (fun q1 => ?_)
  · skip
    refine V_iconst X dX3_finish_24 ?_
    refine V_istore_n X [(2, .int (iN (0))), (0, .ref (ga g (4))), (1, .int (iN (b)))] dX3_finish_25 rfl (by decide) rfl ?_
    refine V_aload_n X 1 rfl dX3_finish_26 rfl ?_
    refine V_bipush X (by decide) dX3_finish_27 ?_
    refine V_aload_n X 1 rfl dX3_finish_29 rfl ?_
    refine V_get X (ci := 3) (4) (by decide) (rfl) (by decide) rfl (fun _ h => List.mem_cons_of_mem _ (List.mem_append_right _ h)) 2 (by decide) (List.mem_of_getElem? (i := 3) rfl) rfl rfl dX3_finish_30 ?_
    refine V_top (b := σ.1 4 2) (rd_k (by decide)) ?_
    refine V_imul X dX3_finish_33 ?_
    refine V_iload_n X 0 rfl dX3_finish_34 rfl ?_
    refine V_isub X dX3_finish_35 ?_
    refine V_put X (ci := 3) (4) (by decide) (rfl) (by decide) rfl (fun _ h => List.mem_cons_of_mem _ (List.mem_append_right _ h)) 3 (by decide) (List.mem_of_getElem? (i := 4) rfl) rfl tyX3 tyX3_ok nmX3 rfl rfl rfl rfl rfl (Nat.le_of_ble_eq_true rfl) dX3_finish_36 ?_
    exact V_vret X hr (by show _ = _; unfold svF; rw [if_neg (by omega)]) dX3_finish_39 (by decide) (by decide)
  · skip
    refine V_bipush X (by decide) dX3_finish_12 ?_
    refine V_iload_n X 1 rfl dX3_finish_14 rfl ?_
    refine V_imul X dX3_finish_15 ?_
    refine V_aload_n X 0 rfl dX3_finish_16 rfl ?_
    refine V_get X (ci := 3) (4) (by decide) (rfl) (by decide) rfl (fun _ h => List.mem_cons_of_mem _ (List.mem_append_right _ h)) 1 (by decide) (List.mem_of_getElem? (i := 2) rfl) rfl rfl dX3_finish_17 ?_
    refine V_top (b := σ.1 4 1) (rd_k (by decide)) ?_
    refine V_idiv X (by omega) (by omega) (by omega) (by omega) dX3_finish_20 ?_
    refine V_goto X 25 dX3_finish_21 (by decide) ?_
    refine V_istore_n X [(2, .int (iN ((100 * b) / (σ.1 4 1)))), (0, .ref (ga g (4))), (1, .int (iN (b)))] dX3_finish_25 rfl (by decide) rfl ?_
    refine V_aload_n X 1 rfl dX3_finish_26 rfl ?_
    refine V_bipush X (by decide) dX3_finish_27 ?_
    refine V_aload_n X 1 rfl dX3_finish_29 rfl ?_
    refine V_get X (ci := 3) (4) (by decide) (rfl) (by decide) rfl (fun _ h => List.mem_cons_of_mem _ (List.mem_append_right _ h)) 2 (by decide) (List.mem_of_getElem? (i := 3) rfl) rfl rfl dX3_finish_30 ?_
    refine V_top (b := σ.1 4 2) (rd_k (by decide)) ?_
    refine V_imul X dX3_finish_33 ?_
    refine V_iload_n X 0 rfl dX3_finish_34 rfl ?_
    refine V_isub X dX3_finish_35 ?_
    refine V_put X (ci := 3) (4) (by decide) (rfl) (by decide) rfl (fun _ h => List.mem_cons_of_mem _ (List.mem_append_right _ h)) 3 (by decide) (List.mem_of_getElem? (i := 4) rfl) rfl tyX3 tyX3_ok nmX3 rfl rfl rfl rfl rfl (Nat.le_of_ble_eq_true rfl) dX3_finish_36 ?_
    exact V_vret X hr (by show _ = _; unfold svF; rw [if_pos (by omega)]) dX3_finish_39 (by decide) (by decide)
/-- what a move leaves: a step of the ride, its ticks, its time if it is over then -/
def MvP (σ : St) (t c k : Nat) (i : Int) (u : St) : Prop := FrR σ u ∧ (u.1 4 0, u.1 4 1, u.1 4 2, decide (σ.1 (73 + 3 * t) 3 ≤ u.1 4 0)) = rsF (σ.1 (73 + 3 * t) 3) (fun p => limG (σ.1 (73 + 3 * t + 1)) (σ.1 (73 + 3 * t + 2)) p 0 k) (σ.1 (85 + c) 0) (σ.1 (85 + c) 1) (σ.1 (85 + c) 2) (σ.1 4 0, σ.1 4 1, σ.1 4 2, false) i ∧
  (σ.1 (73 + 3 * t) 3 ≤ u.1 4 0 → u.1 4 4 = 1 ∧ u.1 4 3 = 100 * u.1 4 2 - svF (u.1 4 0 - σ.1 (73 + 3 * t) 3) (u.1 4 1)) ∧ (¬ σ.1 (73 + 3 * t) 3 ≤ u.1 4 0 → u.1 4 4 = σ.1 4 4 ∧ u.1 4 3 = σ.1 4 3)
theorem FrR.rf {σ : St} (h : RG σ) : FrR σ σ := ⟨fun _ _ => rfl, rfl, h⟩
theorem mv_end {σ u : St} {t c k : Nat} {i z y : Int} (hR : RG σ) (hz1 : 0 ≤ z ∧ z ≤ 9) (hz : z = spdF (σ.1 (85 + c) 0) (σ.1 (85 + c) 1) (σ.1 4 1) i) (b1 : 0 ≤ σ.1 4 0) (b2 : σ.1 4 0 ≤ 9000) (b5 : 0 ≤ σ.1 4 2) (b6 : σ.1 4 2 ≤ 1000) (hlen : 0 ≤ σ.1 (73 + 3 * t) 3)
    (h : (σ.1 (73 + 3 * t) 3 ≤ σ.1 4 0 + z ∧ u = sw (sw (sw (sw (sw σ 4 2 (σ.1 4 2 + 1)) 4 1 z) 4 0 (σ.1 4 0 + z)) 4 4 1) 4 3 (100 * (σ.1 4 2 + 1) - svF (σ.1 4 0 + z - σ.1 (73 + 3 * t) 3) z)) ∨
      (¬ σ.1 (73 + 3 * t) 3 ≤ σ.1 4 0 + z ∧ y = limG (σ.1 (73 + 3 * t + 1)) (σ.1 (73 + 3 * t + 2)) (σ.1 4 0 + z) 0 k ∧
        ((y + σ.1 (85 + c) 2 < z ∧ u = sw (sw (sw (sw σ 4 2 (σ.1 4 2 + 1)) 4 1 z) 4 0 (σ.1 4 0 + z)) 4 1 (z / 2)) ∨ (¬ y + σ.1 (85 + c) 2 < z ∧ u = sw (sw (sw σ 4 2 (σ.1 4 2 + 1)) 4 1 z) 4 0 (σ.1 4 0 + z))))) : MvP σ t c k i u := by
  have f3 : FrR σ (sw (sw (sw σ 4 2 (σ.1 4 2 + 1)) 4 1 z) 4 0 (σ.1 4 0 + z)) := (((FrR.rf hR).sw 2 ⟨by omega, by omega⟩).sw 1 ⟨by omega, by omega⟩).sw 0 ⟨by omega, by omega⟩
  rcases h with ⟨hl, rfl⟩ | ⟨hl, hy, ⟨hs, rfl⟩ | ⟨hs, rfl⟩⟩
  · have hsv : 0 ≤ svF (σ.1 4 0 + z - σ.1 (73 + 3 * t) 3) z ∧ svF (σ.1 4 0 + z - σ.1 (73 + 3 * t) 3) z ≤ 100 * (σ.1 4 0 + z - σ.1 (73 + 3 * t) 3) := by
      unfold svF
      split
      · exact ⟨Int.ediv_nonneg (by omega) (by omega), Int.ediv_le_self _ (by omega)⟩
      · omega
    refine ⟨(f3.sw 4 ⟨by decide, by decide⟩).sw 3 ?_, ?_, ?_, ?_⟩
    · exact ⟨by omega, by omega⟩
    · simp only [sw_get]
      simp [rsF, ← hz, hl]
    · intro _
      simp [sw_get]
    · intro h; simp [sw_get] at h; omega
  · refine ⟨f3.sw 1 ⟨by omega, by omega⟩, ?_, ?_, ?_⟩
    · simp only [sw_get]
      simp [rsF, ← hz, hl, ← hy, hs]
    · intro h; simp [sw_get] at h; omega
    · intro _; simp [sw_get]
  · refine ⟨f3, ?_, ?_, ?_⟩
    · simp only [sw_get]
      simp [rsF, ← hz, hl, ← hy, hs]
    · intro h; simp [sw_get] at h; omega
    · intro _; simp [sw_get]

set_option maxRecDepth 100000 in
set_option maxHeartbeats 4000000 in
theorem m_X3_move (g : Geo) (l : Launch) (hl9 : l.stackTraces = false) (σ : St) (hR : RG σ) (t c k : Nat) (hT : TC σ t c k) (i : Int) (hi : R32 i) (b1 : 0 ≤ σ.1 4 0) (b2 : σ.1 4 0 ≤ 9000) (b3 : 0 ≤ σ.1 4 1) (b4 : σ.1 4 1 ≤ 9) (b5 : 0 ≤ σ.1 4 2) (b6 : σ.1 4 2 ≤ 1000) : Met l yX3_move wsX3_move ({ frames := 2, cells := 0, slots := 0, locals := 42 }) (va_Pc [.ref (ga g (4)), .int (iN (i)), .ref (ga g (73 + 3 * t)), .ref (ga g (85 + c))] (World g σ)) (QV g (fun u => MvP σ t c k i u)) 0 0 (gA g) := by
  refine V_met hl9 (by decide) rfl (Nat.le_of_ble_eq_true rfl) ?_
  intro p9 e9 s9 m9 b9 t9 c9 X hr _
  obtain ⟨h1, h2, h3, h4, h5, h6, h7, h8, h9, h10, h11, h12, h13⟩ := id hT
  refine V_lv (lv' := [(0, .ref (ga g (4))), (1, .int (iN (i))), (2, .ref (ga g (73 + 3 * t))), (3, .ref (ga g (85 + c)))]) rfl ?_
  refine V_aload_n X 0 rfl dX3_move_0 rfl ?_
  refine V_dup X rfl dX3_move_1 ?_
  refine V_get X (ci := 3) (4) (by decide) (rfl) (by decide) rfl (fun _ h => List.mem_cons_of_mem _ (List.mem_append_left _ (List.mem_append_left _ (List.mem_append_right _ h)))) 2 (by decide) (List.mem_of_getElem? (i := 1) rfl) rfl rfl dX3_move_2 ?_
  refine V_iconst X dX3_move_5 ?_
  refine V_iadd X dX3_move_6 ?_
  refine V_put X (ci := 3) (4) (by decide) (rfl) (by decide) rfl (fun _ h => List.mem_cons_of_mem _ (List.mem_append_left _ (List.mem_append_left _ (List.mem_append_right _ h)))) 2 (by decide) (List.mem_of_getElem? (i := 1) rfl) rfl tyX3 tyX3_ok nmX3 rfl rfl rfl rfl rfl (Nat.le_of_ble_eq_true rfl) dX3_move_7 ?_
  refine V_aload_n X 0 rfl dX3_move_10 rfl ?_
  refine V_aload_n X 3 rfl dX3_move_11 rfl ?_
  refine V_aload_n X 0 rfl dX3_move_12 rfl ?_
  refine V_get X (ci := 3) (4) (by decide) (rfl) (by decide) rfl (fun _ h => List.mem_cons_of_mem _ (List.mem_append_left _ (List.mem_append_left _ (List.mem_append_right _ h)))) 1 (by decide) (List.mem_of_getElem? (i := 2) rfl) rfl rfl dX3_move_13 ?_
  refine V_top (b := σ.1 4 1) (rd_k (by decide)) ?_
  refine V_iload_n X 1 rfl dX3_move_16 rfl ?_
  have hRa : RG (sw σ 4 2 (σ.1 4 2 + 1)) := hR.sw 4 2 ⟨by omega, by omega⟩
  refine V_callV_I X (na := 2) (ci := 1) (b0 := 85 + c) (by omega) (kd_car h2) (by decide) rfl (m_X1_speedAfter g l hl9 _ hRa c h2 (σ.1 4 1) i hi b3 (by omega) (by rw [rd_n (by omega)]; omega) (by rw [rd_n (by omega)]; omega) (by rw [rd_n (by omega)]; omega) (by rw [rd_n (by omega)]; omega)) gX3_move_X1_speedAfter rfl rfl rfl (by decide +kernel) ⟨Nat.le_of_ble_eq_true rfl, Nat.le_of_ble_eq_true rfl⟩ rfl rfl (Nat.le_of_ble_eq_true rfl) ⟨Nat.le_of_ble_eq_true rfl, Nat.le_of_ble_eq_true rfl⟩ dX3_move_17 (fun z1 u2 z1r hp3 => ?_)
  obtain ⟨hz, rfl⟩ := hp3
  rw [rd_n (by omega), rd_n (by omega)] at hz
  have hz1 := spdF_b (top := σ.1 (85 + c) 0) (pull := σ.1 (85 + c) 1) (s := σ.1 4 1) (i := i) b3 b4 h10 h8 h9
  rw [← hz] at hz1
  refine V_put X (ci := 3) (4) (by decide) (rfl) (by decide) rfl (fun _ h => List.mem_cons_of_mem _ (List.mem_append_left _ (List.mem_append_left _ (List.mem_append_right _ h)))) 1 (by decide) (List.mem_of_getElem? (i := 2) rfl) rfl tyX3 tyX3_ok nmX3 rfl rfl rfl rfl rfl (Nat.le_of_ble_eq_true rfl) dX3_move_20 ?_
  refine V_aload_n X 0 rfl dX3_move_23 rfl ?_
  refine V_dup X rfl dX3_move_24 ?_
  refine V_get X (ci := 3) (4) (by decide) (rfl) (by decide) rfl (fun _ h => List.mem_cons_of_mem _ (List.mem_append_left _ (List.mem_append_left _ (List.mem_append_right _ h)))) 0 (by decide) (List.mem_of_getElem? (i := 3) rfl) rfl rfl dX3_move_25 ?_
  refine V_top (b := σ.1 4 0) (Eq.trans (rd_k (by decide)) (rd_k (by decide))) ?_
  refine V_aload_n X 0 rfl dX3_move_28 rfl ?_
  refine V_get X (ci := 3) (4) (by decide) (rfl) (by decide) rfl (fun _ h => List.mem_cons_of_mem _ (List.mem_append_left _ (List.mem_append_left _ (List.mem_append_right _ h)))) 1 (by decide) (List.mem_of_getElem? (i := 2) rfl) rfl rfl dX3_move_29 ?_
  refine V_top (b := z1) rd_s ?_
  refine V_iadd X dX3_move_32 ?_
  refine V_put X (ci := 3) (4) (by decide) (rfl) (by decide) rfl (fun _ h => List.mem_cons_of_mem _ (List.mem_append_left _ (List.mem_append_left _ (List.mem_append_right _ h)))) 0 (by decide) (List.mem_of_getElem? (i := 3) rfl) rfl tyX3 tyX3_ok nmX3 rfl rfl rfl rfl rfl (Nat.le_of_ble_eq_true rfl) dX3_move_33 ?_
  refine V_aload_n X 0 rfl dX3_move_36 rfl ?_
  refine V_get X (ci := 3) (4) (by decide) (rfl) (by decide) rfl (fun _ h => List.mem_cons_of_mem _ (List.mem_append_left _ (List.mem_append_left _ (List.mem_append_right _ h)))) 0 (by decide) (List.mem_of_getElem? (i := 3) rfl) rfl rfl dX3_move_37 ?_
  refine V_top (b := (σ.1 4 0) + z1) rd_s ?_
  refine V_aload_n X 2 rfl dX3_move_40 rfl ?_
  refine V_get X (ci := 5) (73 + 3 * t) (by omega) (kd_tr h1) (by decide) rfl (fun _ h => List.mem_cons_of_mem _ (List.mem_append_left _ (List.mem_append_right _ h))) 3 (by decide) (List.mem_of_getElem? (i := 4) rfl) rfl rfl dX3_move_41 ?_
  refine V_top (b := σ.1 (73 + 3 * t) (3)) (Eq.trans (rd_n (by omega)) (Eq.trans (rd_n (by omega)) (rd_n (by omega)))) ?_
  refine V_icmp_lt X 63 ⟨by omega, by omega⟩ (hR (73 + 3 * t) (3)) dX3_move_44 (by decide) (fun q4 => ?_) (fun q4 => ?_)
  · skip
    refine V_aload_n X 0 rfl dX3_move_63 rfl ?_
    refine V_get X (ci := 3) (4) (by decide) (rfl) (by decide) rfl (fun _ h => List.mem_cons_of_mem _ (List.mem_append_left _ (List.mem_append_left _ (List.mem_append_right _ h)))) 1 (by decide) (List.mem_of_getElem? (i := 2) rfl) rfl rfl dX3_move_64 ?_
    refine V_top (b := z1) (Eq.trans (rd_k (by decide)) rd_s) ?_
    refine V_aload_n X 2 rfl dX3_move_67 rfl ?_
    refine V_aload_n X 0 rfl dX3_move_68 rfl ?_
    refine V_get X (ci := 3) (4) (by decide) (rfl) (by decide) rfl (fun _ h => List.mem_cons_of_mem _ (List.mem_append_left _ (List.mem_append_left _ (List.mem_append_right _ h)))) 0 (by decide) (List.mem_of_getElem? (i := 3) rfl) rfl rfl dX3_move_69 ?_
    refine V_top (b := (σ.1 4 0) + z1) rd_s ?_
    have hRb : RG (sw (sw (sw σ (4) (2) ((σ.1 4 2) + 1)) (4) (1) (z1)) (4) (0) ((σ.1 4 0) + z1)) := ((hR.sw 4 2 ⟨by omega, by omega⟩).sw 4 1 ⟨by omega, by omega⟩).sw 4 0 ⟨by omega, by omega⟩
    refine V_callV_I X (na := 1) (ci := 5) (b0 := 73 + 3 * t) (by omega) (kd_tr h1) (by decide) rfl (m_X5_limitOf g l hl9 _ hRb t h1 k (by rw [rd_n (by omega), rd_n (by omega), rd_n (by omega)]; exact h4) h3 ((σ.1 4 0) + z1) ⟨by omega, by omega⟩) gX3_move_X5_limitOf rfl rfl rfl (by decide +kernel) ⟨Nat.le_of_ble_eq_true rfl, Nat.le_of_ble_eq_true rfl⟩ rfl rfl (Nat.le_of_ble_eq_true rfl) ⟨Nat.le_of_ble_eq_true rfl, Nat.le_of_ble_eq_true rfl⟩ dX3_move_72 (fun z5 u6 z5r hp7 => ?_)
    obtain ⟨hy, rfl⟩ := hp7
    rw [sw_ne (by omega), sw_ne (by omega), sw_ne (by omega), sw_ne (by omega), sw_ne (by omega), sw_ne (by omega)] at hy
    have hy1 := limG_b (E := σ.1 (73 + 3 * t + 1)) (L := σ.1 (73 + 3 * t + 2)) (p := (σ.1 4 0) + z1) h7 k 0 (by omega)
    rw [← hy] at hy1
    refine V_aload_n X 3 rfl dX3_move_75 rfl ?_
    refine V_get X (ci := 1) (85 + c) (by omega) (kd_car h2) (by decide) rfl (fun _ h => List.mem_cons_of_mem _ (List.mem_append_right _ h)) 2 (by decide) (List.mem_of_getElem? (i := 5) rfl) rfl rfl dX3_move_76 ?_
    refine V_top (b := σ.1 (85 + c) (2)) (Eq.trans (rd_n (by omega)) (Eq.trans (rd_n (by omega)) (rd_n (by omega)))) ?_
    refine V_iadd X dX3_move_79 ?_
    refine V_icmp_le X 93 ⟨by omega, by omega⟩ ⟨by omega, by omega⟩ dX3_move_80 (by decide) (fun q8 => ?_) (fun q8 => ?_)
    · skip
      exact V_vret X hr (by exact mv_end hR hz1 hz (by omega) (by omega) (by omega) (by omega) h5 (Or.inr ⟨by omega, hy, Or.inr ⟨by omega, rfl⟩⟩)) dX3_move_93 (by decide) (by decide)
    · skip
      refine V_aload_n X 0 rfl dX3_move_83 rfl ?_
      refine V_aload_n X 0 rfl dX3_move_84 rfl ?_
      refine V_get X (ci := 3) (4) (by decide) (rfl) (by decide) rfl (fun _ h => List.mem_cons_of_mem _ (List.mem_append_left _ (List.mem_append_left _ (List.mem_append_right _ h)))) 1 (by decide) (List.mem_of_getElem? (i := 2) rfl) rfl rfl dX3_move_85 ?_
      refine V_top (b := z1) (Eq.trans (rd_k (by decide)) rd_s) ?_
      refine V_iconst X dX3_move_88 ?_
      refine V_idiv X (by omega) (by omega) (by omega) (by omega) dX3_move_89 ?_
      refine V_put X (ci := 3) (4) (by decide) (rfl) (by decide) rfl (fun _ h => List.mem_cons_of_mem _ (List.mem_append_left _ (List.mem_append_left _ (List.mem_append_right _ h)))) 1 (by decide) (List.mem_of_getElem? (i := 2) rfl) rfl tyX3 tyX3_ok nmX3 rfl rfl rfl rfl rfl (Nat.le_of_ble_eq_true rfl) dX3_move_90 ?_
      exact V_vret X hr (by exact mv_end hR hz1 hz (by omega) (by omega) (by omega) (by omega) h5 (Or.inr ⟨by omega, hy, Or.inl ⟨by omega, rfl⟩⟩)) dX3_move_93 (by decide) (by decide)
  · skip
    refine V_aload_n X 0 rfl dX3_move_47 rfl ?_
    refine V_aload_n X 0 rfl dX3_move_48 rfl ?_
    refine V_get X (ci := 3) (4) (by decide) (rfl) (by decide) rfl (fun _ h => List.mem_cons_of_mem _ (List.mem_append_left _ (List.mem_append_left _ (List.mem_append_right _ h)))) 0 (by decide) (List.mem_of_getElem? (i := 3) rfl) rfl rfl dX3_move_49 ?_
    refine V_top (b := (σ.1 4 0) + z1) rd_s ?_
    refine V_aload_n X 2 rfl dX3_move_52 rfl ?_
    refine V_get X (ci := 5) (73 + 3 * t) (by omega) (kd_tr h1) (by decide) rfl (fun _ h => List.mem_cons_of_mem _ (List.mem_append_left _ (List.mem_append_right _ h))) 3 (by decide) (List.mem_of_getElem? (i := 4) rfl) rfl rfl dX3_move_53 ?_
    refine V_top (b := σ.1 (73 + 3 * t) (3)) (Eq.trans (rd_n (by omega)) (Eq.trans (rd_n (by omega)) (rd_n (by omega)))) ?_
    refine V_isub X dX3_move_56 ?_
    have hRb : RG (sw (sw (sw σ (4) (2) ((σ.1 4 2) + 1)) (4) (1) (z1)) (4) (0) ((σ.1 4 0) + z1)) := ((hR.sw 4 2 ⟨by omega, by omega⟩).sw 4 1 ⟨by omega, by omega⟩).sw 4 0 ⟨by omega, by omega⟩
    refine V_callV_V X (na := 1) (ci := 3) (b0 := 4) (by decide) (rfl) (by decide) rfl (m_X3_finish g l hl9 _ hRb (((σ.1 4 0) + z1) - (σ.1 (73 + 3 * t) (3))) (by omega) (by omega) (by rw [rd_k (by decide), rd_s]; omega)) gX3_move_X3_finish rfl rfl rfl (by decide +kernel) ⟨Nat.le_of_ble_eq_true rfl, Nat.le_of_ble_eq_true rfl⟩ rfl rfl (Nat.le_of_ble_eq_true rfl) ⟨Nat.le_of_ble_eq_true rfl, Nat.le_of_ble_eq_true rfl⟩ dX3_move_57 (fun u10 hp11 => ?_)
    rw [rd_k (by decide), rd_k (by decide), rd_s, rd_k (by decide), rd_s] at hp11
    subst hp11
    refine V_goto X 93 dX3_move_60 (by decide) ?_
    exact V_vret X hr (by exact mv_end (y := 0) hR hz1 hz (by omega) (by omega) (by omega) (by omega) h5 (Or.inl ⟨by omega, rfl⟩)) dX3_move_93 (by decide) (by decide)
