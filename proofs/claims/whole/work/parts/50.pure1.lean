/-! ===== the invariant: the class's cells and the reference's rows say the same ===== -/
/-- what no call's answer depends on -/
def scr (a k : Nat) : Prop := a = 4 ∨ (69 ≤ a ∧ a ≤ 72) ∨ a = 109 ∨ (a = 89 ∧ (k = 0 ∨ (28 ≤ k ∧ k ≤ 31)))
def EqS (σ u : St) : Prop := (∀ a k, ¬ scr a k → u.1 a k = σ.1 a k) ∧ RG u
theorem EqS.row {σ u : St} (h : EqS σ u) {a : Nat} (ha : a ≠ 4 ∧ (a < 69 ∨ 72 < a) ∧ a ≠ 89 ∧ a ≠ 109) : u.1 a = σ.1 a := by
  funext k
  exact h.1 a k (by unfold scr; omega)
theorem EqS.k {σ u : St} (h : EqS σ u) {k : Nat} (hk : k ≠ 0 ∧ (k < 28 ∨ 31 < k)) : u.1 89 k = σ.1 89 k := h.1 89 k (by unfold scr; omega)
def JC (σ : St) (n ty R D : Nat) : Prop :=
  (σ.1 0 1 = σ.1 89 1 ∧ 0 ≤ σ.1 89 1 ∧ σ.1 89 1 ≤ 4) ∧ (σ.1 0 3 = σ.1 89 5 ∧ 0 ≤ σ.1 89 5 ∧ σ.1 89 5 ≤ 4) ∧ (σ.1 0 5 = (ty : Int) ∧ σ.1 89 9 = (ty : Int) ∧ ty ≤ 60) ∧ (σ.1 5 1 = (n : Int) ∧ σ.1 89 11 = (n : Int) ∧ n ≤ 30) ∧
  (σ.1 67 1 = (R : Int) ∧ σ.1 89 23 = (R : Int) ∧ R ≤ 10) ∧ (σ.1 67 3 = (D : Int) ∧ σ.1 89 26 = (D : Int) ∧ D ≤ 3) ∧ ((σ.1 89 24 = 0 ∧ σ.1 67 2 = -1) ∨ (σ.1 89 24 = 1 ∧ σ.1 67 2 = (R : Int) - 1 ∧ 1 ≤ R))
def JI (σ : St) (ty : Nat) : Prop := (∀ i, i < 60 → (0 ≤ σ.1 3 i ∧ σ.1 3 i < 65536) ∧ 0 ≤ σ.1 96 i ∧ σ.1 96 i < 65536) ∧ (∀ i, i < ty → σ.1 3 i = σ.1 96 i) ∧ (∀ i, i < 1800 → 0 ≤ σ.1 97 i ∧ σ.1 97 i < 65536) ∧ ∀ l, l < 30 → ∀ i, i < 60 → 0 ≤ σ.1 (7 + 2 * l + 1) i ∧ σ.1 (7 + 2 * l + 1) i < 65536
def JS (σ : St) (R : Nat) : Prop := ∀ r, r < R → σ.1 68 r = σ.1 108 r
def JT (σ : St) (n t : Nat) : Prop := σ.1 (73 + 3 * t) 2 = σ.1 90 t ∧ σ.1 (73 + 3 * t) 3 = lenM σ t ∧ (∀ k, k < (σ.1 90 t).toNat → σ.1 (73 + 3 * t + 1) k = sumF (lenRow σ t) (k + 1) ∧ σ.1 (73 + 3 * t + 2) k = σ.1 92 (12 * t + k) ∧ 1 ≤ lenRow σ t k) ∧ σ.1 (73 + 3 * t) 4 = drvM σ (t : Int) n
def JK (σ : St) (c : Nat) : Prop := σ.1 (85 + c) 0 = σ.1 93 c ∧ σ.1 (85 + c) 1 = σ.1 94 c ∧ σ.1 (85 + c) 2 = σ.1 95 c
/-- a lap driven again is over behind its inputs, not before, and has its time -/
def JR (σ : St) (t c : Nat) (inp : Nat → Int) (k time : Int) : Prop := (∀ i : Nat, (i : Int) < k → ¬ (rideM σ t c inp i).2.2.2 = true) ∧ (rideM σ t c inp k.toNat).2.2.2 = true ∧ time = tmM σ t (rideM σ t c inp k.toNat)
def JE (σ : St) (l : Nat) : Prop := σ.1 (7 + 2 * l) 1 = σ.1 98 l ∧ σ.1 (7 + 2 * l) 2 = σ.1 99 l ∧ σ.1 (7 + 2 * l) 3 = σ.1 101 l ∧ σ.1 (7 + 2 * l) 4 = σ.1 102 l ∧ σ.1 (7 + 2 * l) 5 = σ.1 103 l ∧ σ.1 (7 + 2 * l) 6 = σ.1 104 l ∧ σ.1 (7 + 2 * l) 7 = σ.1 105 l ∧ σ.1 (7 + 2 * l) 8 = σ.1 100 l ∧ σ.1 (7 + 2 * l) 9 = 1 - σ.1 107 l ∧ σ.1 (7 + 2 * l) 10 = σ.1 106 l ∧ σ.1 (7 + 2 * l) 12 = prtM σ l
def JB (σ : St) (l : Nat) : Prop := 1 ≤ σ.1 98 l ∧ (0 ≤ σ.1 101 l ∧ σ.1 101 l < 6) ∧ (0 ≤ σ.1 102 l ∧ σ.1 102 l < σ.1 89 1) ∧ 0 ≤ σ.1 103 l ∧ σ.1 103 l < σ.1 89 5
def JD (σ : St) (l : Nat) : Prop := (0 ≤ σ.1 (7 + 2 * l) 11 ∧ σ.1 (7 + 2 * l) 11 ≤ 5) ∧ ((σ.1 106 l = -1 ∧ σ.1 (7 + 2 * l) 11 = 0) ∨ (0 ≤ σ.1 106 l ∧ σ.1 (7 + 2 * l) 11 = σ.1 (7 + 2 * (σ.1 106 l).toNat) 11 + 1 ∧ σ.1 107 (σ.1 106 l).toNat = 0))
def JL (σ : St) (l : Nat) : Prop := JE σ l ∧ MR σ l ∧ JB σ l ∧ JD σ l ∧ (∀ k, k < (σ.1 98 l).toNat → σ.1 (7 + 2 * l + 1) k = inM σ l k) ∧ JR σ (σ.1 102 l).toNat (σ.1 103 l).toNat (inM σ l) (σ.1 98 l) (σ.1 99 l)
def JJ (σ : St) (n ty R D : Nat) : Prop := RG σ ∧ JC σ n ty R D ∧ (TM σ ∧ CM σ) ∧ JI σ ty ∧ JS σ R ∧ (∀ t, t < 4 → JT σ n t) ∧ (∀ c, c < 4 → JK σ c) ∧ ∀ l, l < n → JL σ l
/-! what the calls ask -/
theorem JJ.LB {σ : St} {n ty R D : Nat} (h : JJ σ n ty R D) : LB σ n := by
  obtain ⟨-, hc, -, -, -, -, -, hl⟩ := h
  obtain ⟨-, -, -, ⟨a1, a2, a3⟩, -⟩ := hc
  refine ⟨a1, a3, fun l h => ?_⟩
  obtain ⟨e, m, b, d, -, -⟩ := hl l h
  unfold JE at e
  unfold MR at m
  unfold JB at b
  unfold JD at d
  unfold LR
  omega
theorem JJ.MB {σ : St} {n ty R D : Nat} (h : JJ σ n ty R D) : MB σ n := by
  obtain ⟨-, hc, -, -, -, -, -, hl⟩ := h
  obtain ⟨-, -, -, ⟨a1, a2, a3⟩, -⟩ := hc
  exact ⟨a2, a3, fun l h => (hl l h).2.1⟩
def dpR (σ : St) (l : Nat) : Int := σ.1 (7 + 2 * l) 11
theorem JJ.MD {σ : St} {n ty R D : Nat} (h : JJ σ n ty R D) : MD σ n (dpR σ) := by
  obtain ⟨-, -, -, -, -, -, -, hl⟩ := h
  intro l hl0
  obtain ⟨-, m, -, d, -, -⟩ := hl l hl0
  unfold MR at m
  unfold JD at d
  unfold dpR
  refine ⟨d.1, ?_⟩
  rcases d.2 with a | a
  · exact Or.inl a
  · exact Or.inr ⟨⟨a.1, m.2.2.2.2.1.2⟩, a.2.1⟩
theorem limG_congr {E L E2 L2 : Nat → Int} {p : Int} {K : Nat} (h : ∀ j, j < K → E j = E2 j ∧ L j = L2 j) : ∀ d i, i + d ≤ K → limG E L p i d = limG E2 L2 p i d := by
  intro d
  induction d with
  | zero => intro i _; rfl
  | succ d ih =>
    intro i hi
    rw [limG, limG, ih (i + 1) (by omega), (h i (by omega)).1, (h i (by omega)).2]
theorem rfF_congr {len : Int} {lim : Int → Int} {top pull grip : Int} {a b : Nat → Int} : ∀ i, (∀ j, j < i → a j = b j) → rfF len lim top pull grip a i = rfF len lim top pull grip b i := by
  intro i
  induction i with
  | zero => intro _; rfl
  | succ i ih =>
    intro h
    rw [rfF, rfF, ih (fun j hj => h j (by omega)), h i (by omega)]
theorem JJ.ride {σ : St} {n ty R D t c : Nat} (h : JJ σ n ty R D) (ht : t < 4) (hc : c < 4) (inp : Nat → Int) : rdF σ t c inp = rideM σ t c inp := by
  obtain ⟨-, -, -, -, -, hT, hK, -⟩ := h
  obtain ⟨t1, t2, t3, -⟩ := hT t ht
  obtain ⟨k1, k2, k3⟩ := hK c hc
  funext i
  unfold rdF rideC rideM
  rw [t1, t2, k1, k2, k3]
  congr 1
  funext p
  unfold limM
  exact limG_congr (K := (σ.1 90 t).toNat) (fun j hj => ⟨(t3 j hj).1, (t3 j hj).2.1⟩) _ 0 (by omega)
theorem JJ.TK {σ : St} {n ty R D : Nat} (h : JJ σ n ty R D) : TK σ := by
  obtain ⟨-, -, ⟨hTM, hCM⟩, -, -, hT, hK, -⟩ := h
  intro t c ht hc
  obtain ⟨t1, t2, t3, -⟩ := hT t ht
  obtain ⟨k1, k2, k3⟩ := hK c hc
  have hm := hTM.1 t ht
  have hlb := lenM_b hTM ht
  obtain ⟨c1, c2, c3⟩ := hCM c hc
  unfold TC
  rw [k1, k2, k3, t1, t2]
  exact ⟨ht, hc, by omega, by omega, hlb.1, by omega, fun i hi => by rw [(t3 i hi).2.1]; exact (hTM.2 (12 * t + i) (by omega)).2, c1.1, c1.2, c2.1, c2.2, c3.1, c3.2⟩
theorem JJ.Tk {σ : St} {n ty R D : Nat} (h : JJ σ n ty R D) : ∀ t, t < 4 → 0 ≤ σ.1 (73 + 3 * t) 2 ∧ σ.1 (73 + 3 * t) 2 ≤ 12 ∧ 0 ≤ σ.1 (73 + 3 * t) 3 ∧ σ.1 (73 + 3 * t) 3 ≤ 1000 := by
  obtain ⟨-, -, ⟨hTM, hCM⟩, -, -, hT, -, -⟩ := h
  intro t ht
  obtain ⟨t1, t2, -, -⟩ := hT t ht
  have hm := hTM.1 t ht
  have hlb := lenM_b hTM ht
  omega
theorem JJ.PM {σ : St} {n ty R D : Nat} (h : JJ σ n ty R D) : PM σ := by
  obtain ⟨-, -, ⟨hTM, hCM⟩, -, -, hT, -, -⟩ := h
  intro t ht h0
  have hm := hTM.1 t ht
  obtain ⟨-, -, t3, -⟩ := hT t ht
  have h1 := (t3 0 (by omega)).2.2
  have hm1 : ∀ i, i < (σ.1 90 t).toNat → 1 ≤ lenRow σ t i := fun i hi => (t3 i hi).2.2
  have key : ∀ i : Nat, i ≤ (σ.1 90 t).toNat → (i : Int) ≤ sumF (lenRow σ t) i := by
    intro i
    induction i with
    | zero => intro _; exact Int.le_refl 0
    | succ i ih =>
      intro hi
      have := ih (by omega)
      have := hm1 i (by omega)
      rw [sumF]
      omega
  have := key _ (Nat.le_refl _)
  unfold lenM
  omega
theorem JJ.lt {σ : St} {n ty R D : Nat} (h : JJ σ n ty R D) : ∀ l, l < n → (0 ≤ σ.1 (7 + 2 * l) 4 ∧ σ.1 (7 + 2 * l) 4 < σ.1 0 1) ∧ 0 ≤ σ.1 (7 + 2 * l) 5 ∧ σ.1 (7 + 2 * l) 5 < σ.1 0 3 := by
  obtain ⟨-, hc, -, -, -, -, -, hl⟩ := h
  intro l hl0
  obtain ⟨e, -, b, -, -, -⟩ := hl l hl0
  unfold JE at e
  unfold JB at b
  unfold JC at hc
  omega
theorem JJ.ltM {σ : St} {n ty R D : Nat} (h : JJ σ n ty R D) : ∀ l, l < n → (0 ≤ σ.1 102 l ∧ σ.1 102 l < 4) ∧ 0 ≤ σ.1 103 l ∧ σ.1 103 l < 4 := by
  obtain ⟨-, hc, -, -, -, -, -, hl⟩ := h
  intro l hl0
  obtain ⟨e, -, b, -, -, -⟩ := hl l hl0
  unfold JB at b
  unfold JC at hc
  omega
theorem JJ.no {σ : St} {n ty R D : Nat} (h : JJ σ n ty R D) : ∀ l, l < n → ∀ i : Nat, (i : Int) < σ.1 98 l → ¬ (rideM σ (σ.1 102 l).toNat (σ.1 103 l).toNat (inM σ l) i).2.2.2 = true := fun l hl => (h.2.2.2.2.2.2.2 l hl).2.2.2.2.2.1
/-- the class's ride of a kept lap is the reference's -/
theorem JJ.lapride {σ : St} {n ty R D l : Nat} (h : JJ σ n ty R D) (hl : l < n) (k : Nat) (hk : (k : Int) ≤ σ.1 98 l) : rdF σ (σ.1 (7 + 2 * l) 4).toNat (σ.1 (7 + 2 * l) 5).toNat (σ.1 (7 + 2 * l + 1)) k = rideM σ (σ.1 102 l).toNat (σ.1 103 l).toNat (inM σ l) k := by
  have hb := h.ltM l hl
  have hj := h.2.2.2.2.2.2.2 l hl
  have e := hj.1
  unfold JE at e
  rw [e.2.2.2.1, e.2.2.2.2.1, h.ride (by omega) (by omega)]
  unfold rideM
  exact rfF_congr k (fun j hj0 => hj.2.2.2.2.1 j (by omega))
theorem JJ.snd {σ : St} {n ty R D : Nat} (h : JJ σ n ty R D) : ∀ l, l < n → sndP σ n l := by
  intro l hl
  have hb := h.ltM l hl
  have hj := h.2.2.2.2.2.2.2 l hl
  obtain ⟨e, m, b, d, -, r⟩ := hj
  have hr := h.lapride hl (σ.1 98 l).toNat (by unfold JB at b; omega)
  unfold JE at e
  unfold MR at m
  unfold JB at b
  unfold JD at d
  obtain ⟨r1, r2, r3⟩ := r
  unfold sndP
  rw [e.1, hr]
  refine ⟨⟨r2, ?_⟩, fun h1 h2 => ?_, d.1.2⟩
  · have t2 := (h.2.2.2.2.2.1 (σ.1 102 l).toNat (by omega)).2.1
    rw [e.2.1, r3, e.2.2.2.1, t2]
    unfold tmF tmM
    rw [if_pos r2]
  · rw [e.2.2.2.2.2.2.2.2.2.1] at h1 h2 ⊢
    rcases d.2 with a | a
    · omega
    · have hb2 := (h.2.2.2.2.2.2.2 (σ.1 106 l).toNat (by omega)).1
      unfold JE at hb2
      omega
theorem JJ.can {σ : St} {n ty R D t c : Nat} (h : JJ σ n ty R D) (ht : t < 4) (hc : c < 4) : rdF σ t c (σ.1 3) ty = rideM σ t c (σ.1 96) ty ∧ (canD σ t c ty ↔ canM σ t c ty) := by
  have e : rdF σ t c (σ.1 3) ty = rideM σ t c (σ.1 96) ty := by
    rw [h.ride ht hc]
    unfold rideM
    exact rfF_congr ty (fun j hj => h.2.2.2.1.2.1 j hj)
  refine ⟨e, ?_⟩
  unfold canD canM
  rw [e, (h.2.2.2.2.2.1 t ht).1]
theorem JJ.tm {σ : St} {n ty R D t : Nat} (h : JJ σ n ty R D) (ht : t < 4) {r : RS} (hr : r.2.2.2 = true) : tmF (σ.1 (73 + 3 * t) 3) r = tmM σ t r := by
  unfold tmF tmM
  rw [if_pos hr, (h.2.2.2.2.2.1 t ht).2.1]
theorem JJ.cnt {σ : St} {n ty R D : Nat} (h : JJ σ n ty R D) : ∀ l, l < n → cntC σ l = cntM σ l := by
  intro l hl
  have e := (h.2.2.2.2.2.2.2 l hl).1
  unfold JE at e
  unfold cntC cntM
  omega
theorem JJ.lap {σ : St} {n ty R D d : Nat} {r : Int} (h : JJ σ n ty R D) : lapF σ n r d n = lapM σ n r (d : Int) := by
  unfold lapF lapM
  refine bestF_congr n (fun l hl => ⟨?_, h.cnt l hl⟩)
  have e := (h.2.2.2.2.2.2.2 l hl).1
  have m := (h.2.2.2.2.2.2.2 l hl).2.1
  unfold JE at e
  unfold MR at m
  unfold selM
  apply decide_eq_decide.mpr
  omega
theorem JJ.pl {σ : St} {n ty R D r d : Nat} (h : JJ σ n ty R D) : plF σ n r d = plS σ n (r : Int) (d : Int) 6 := by
  unfold plF plS
  refine sumF_congr 6 (fun o _ => ?_)
  rw [h.lap, h.lap]
  exact ahI_congr h.cnt
