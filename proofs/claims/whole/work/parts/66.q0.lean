/-! ===== a call on both sides ===== -/
def Nx (w : St) : Prop := ∃ n ty R D, JJ w n ty R D ∧ JU w n
theorem Nx.rg {w : St} (h : Nx w) : RG w := by
  obtain ⟨n, ty, R, D, h, -⟩ := h
  exact h.1
theorem JJ.ext {σ u : St} {n ty R D : Nat} (h : JJ σ n ty R D) (e : u.1 = σ.1) : JJ u n ty R D := by
  obtain ⟨a, x⟩ := u
  have e : a = σ.1 := e
  subst e
  exact h.out x
theorem JU.ext {σ u : St} {n : Nat} (h : JU σ n) (e : u.1 = σ.1) : JU u n := by
  obtain ⟨a, x⟩ := u
  have e : a = σ.1 := e
  subst e
  exact h
theorem Nx.mk {σ w : St} {n ty R D : Nat} (h : JJ σ n ty R D) (hU : JU σ n) (e : w.1 = σ.1) : Nx w := ⟨n, ty, R, D, h.ext e, hU.ext e⟩
theorem Nx.code {σ : St} {n ty R D : Nat} (h : JJ σ n ty R D) (hU : JU σ n) (x : Int × UInt64) {v : Int} (hv : R32 v) : Nx (sw (σ.1, x) 89 0 v) :=
  ⟨n, ty, R, D, (h.out x).scr (EqS.code h.1 hv), (hU.eqS (EqS.out h.1 x)).eqS (EqS.code h.1 hv)⟩
theorem Nx.eqS {σ w : St} {n ty R D : Nat} (h : JJ σ n ty R D) (hU : JU σ n) (f : EqS σ w) : Nx w := ⟨n, ty, R, D, h.scr f, hU.eqS f⟩
theorem MQr.rf {σ : St} (hG : RG σ) (x : Int × UInt64) : MQr σ (σ.1, x) := ⟨fun _ _ _ => rfl, hG⟩
theorem MQr.eqS {σ u : St} (hG : RG u) (f : ∀ a, (89 ≤ a ∧ a < 110) → u.1 a = σ.1 a) : MQr σ u := ⟨fun q h1 h2 => f q ⟨h1, h2⟩, hG⟩
theorem cntM_q {σ u : St} (f : MQr σ u) : cntM u = cntM σ := by
  funext l
  unfold cntM
  rw [f.1 99 (by decide) (by decide), f.1 100 (by decide) (by decide)]
theorem lapM_q {σ u : St} (f : MQr σ u) (n : Nat) : lapM u n = lapM σ n := by
  have e : selM u = selM σ := by
    funext r d l
    unfold selM
    rw [f.1 105 (by decide) (by decide), f.1 101 (by decide) (by decide), f.1 107 (by decide) (by decide)]
  funext r d
  unfold lapM
  rw [cntM_q f, e]
theorem plcM_q {σ u : St} (f : MQr σ u) (n : Nat) : plcM u n = plcM σ n := by
  funext r d
  unfold plcM plS
  rw [lapM_q f, cntM_q f]
theorem scM_q {σ u : St} (f : MQr σ u) (n : Nat) (d : Int) : scM u n d = scM σ n d := by
  funext r
  unfold scM
  rw [plcM_q f]
theorem ptsM_q {σ u : St} (f : MQr σ u) (n R D : Nat) (d : Int) : ptsM u n R D d = ptsM σ n R D d := by
  unfold ptsM drM
  rw [scM_q f]
theorem wonM_q {σ u : St} (f : MQr σ u) (n R : Nat) (d : Int) : wonM u n R d = wonM σ n R d := by
  unfold wonM
  congr 1
  funext r
  unfold wnM
  rw [plcM_q f]
theorem tmM_q {σ u : St} (f : MQr σ u) (t : Nat) (r : RS) : tmM u t r = tmM σ t r := by
  unfold tmM
  rw [(f.ride t 0).2]
theorem canM_q {σ u : St} (f : MQr σ u) (t c ty : Nat) : canM u t c ty = canM σ t c ty := by
  unfold canM
  rw [(f.ride t c).1, f.1 90 (by decide) (by decide), f.1 96 (by decide) (by decide)]
theorem FrR.mq {σ u : St} (f : FrR σ u) : MQr σ u := ⟨fun q h1 h2 => f.1 q (by omega), f.2.2⟩
theorem FrS.mq {σ u : St} (f : FrS σ u) : MQr σ u := ⟨fun q h1 h2 => f.1 q (by omega), f.2.2⟩
theorem FrR.v {σ u : St} (f : FrR σ u) (x : Int × UInt64) : FrR (σ.1, x) (u.1, x) := ⟨f.1, rfl, f.2.2⟩
theorem FrS.v {σ u : St} (f : FrS σ u) (x : Int × UInt64) : FrS (σ.1, x) (u.1, x) := ⟨f.1, rfl, f.2.2⟩
theorem Nx.frM {σ u w : St} {n ty R D : Nat} (h : JJ σ n ty R D) (hU : JU σ n) (f : EqS σ u) (fm : FrM u w) : Nx w := Nx.eqS h hU (f.tr fm.eqS)
theorem FrR.eqx {σ u : St} (f : FrR σ u) (x : Int × UInt64) : EqS σ (u.1, x) := (FrR.eqS f).tr (EqS.out f.2.2 x)
theorem FrS.eqx {σ u : St} (f : FrS σ u) (x : Int × UInt64) : EqS σ (u.1, x) := (FrS.eqS f).tr (EqS.out f.2.2 x)
/-! what the reference is asked behind a call of the class -/
section RU
variable {σ u : St} {n ty R D : Nat}
theorem JJ.f1 (h : JJ σ n ty R D) (f : MQr σ u) : 0 ≤ u.1 89 1 ∧ u.1 89 1 ≤ 4 := by
  have hc := h.2.1
  unfold JC at hc
  rw [f.1 89 (by decide) (by decide)]
  omega
theorem JJ.f5 (h : JJ σ n ty R D) (f : MQr σ u) : 0 ≤ u.1 89 5 ∧ u.1 89 5 ≤ 4 := by
  have hc := h.2.1
  unfold JC at hc
  rw [f.1 89 (by decide) (by decide)]
  omega
theorem JJ.f9 (h : JJ σ n ty R D) (f : MQr σ u) : u.1 89 9 = (ty : Int) := by
  have hc := h.2.1
  unfold JC at hc
  rw [f.1 89 (by decide) (by decide)]
  omega
theorem JJ.ty60 (h : JJ σ n ty R D) : ty ≤ 60 := by
  have hc := h.2.1
  unfold JC at hc
  omega
theorem JJ.n30 (h : JJ σ n ty R D) : n ≤ 30 := by
  have hc := h.2.1
  unfold JC at hc
  omega
theorem JJ.f11 (h : JJ σ n ty R D) (f : MQr σ u) : u.1 89 11 = (n : Int) := by
  have hc := h.2.1
  unfold JC at hc
  rw [f.1 89 (by decide) (by decide)]
  omega
theorem JJ.f11b (h : JJ σ n ty R D) (f : MQr σ u) : 0 ≤ u.1 89 11 ∧ u.1 89 11 ≤ 30 := by
  have := h.f11 f
  have := h.n30
  omega
theorem JJ.f23 (h : JJ σ n ty R D) (f : MQr σ u) : u.1 89 23 = (R : Int) := by
  have hc := h.2.1
  unfold JC at hc
  rw [f.1 89 (by decide) (by decide)]
  omega
theorem JJ.R10 (h : JJ σ n ty R D) : R ≤ 10 := by
  have hc := h.2.1
  unfold JC at hc
  omega
theorem JJ.f23b (h : JJ σ n ty R D) (f : MQr σ u) : 0 ≤ u.1 89 23 ∧ u.1 89 23 ≤ 10 := by
  have := h.f23 f
  have := h.R10
  omega
theorem JJ.f26 (h : JJ σ n ty R D) (f : MQr σ u) : u.1 89 26 = (D : Int) := by
  have hc := h.2.1
  unfold JC at hc
  rw [f.1 89 (by decide) (by decide)]
  omega
theorem JJ.D3 (h : JJ σ n ty R D) : D ≤ 3 := by
  have hc := h.2.1
  unfold JC at hc
  omega
theorem JJ.fop (h : JJ σ n ty R D) (f : MQr σ u) : ¬ u.1 89 24 = 0 → 1 ≤ u.1 89 23 := by
  have hc := h.2.1
  unfold JC at hc
  rw [f.1 89 (by decide) (by decide)]
  omega
theorem JJ.fch (h : JJ σ n ty R D) (f : MQr σ u) : ∀ i, i < 60 → 0 ≤ u.1 96 i ∧ u.1 96 i < 65536 := by
  rw [f.1 96 (by decide) (by decide)]
  exact fun i hi => (h.2.2.2.1.1 i hi).2
theorem JJ.fin (h : JJ σ n ty R D) (f : MQr σ u) : ∀ i, i < 1800 → 0 ≤ u.1 97 i ∧ u.1 97 i < 65536 := by
  rw [f.1 97 (by decide) (by decide)]
  exact h.2.2.2.1.2.2.1
theorem JJ.fcb (h : JJ σ n ty R D) (f : MQr σ u) : ∀ l : Nat, (l : Int) < u.1 89 11 → 0 ≤ cntM u l ∧ cntM u l ≤ 1009999 := by
  intro l hl
  rw [h.f11 f] at hl
  rw [cntM_q f]
  have m := (h.2.2.2.2.2.2.2 l (by omega)).2.1
  unfold MR at m
  unfold cntM
  omega
theorem JJ.ftk (h : JJ σ n ty R D) (f : MQr σ u) : ∀ l : Nat, (l : Int) < u.1 89 11 → 0 ≤ u.1 98 l ∧ u.1 98 l ≤ 60 := by
  intro l hl
  rw [h.f11 f] at hl
  rw [f.1 98 (by decide) (by decide)]
  exact (h.2.2.2.2.2.2.2 l (by omega)).2.1.1
theorem JJ.fno (h : JJ σ n ty R D) (f : MQr σ u) : ∀ l, l < n → ∀ i : Nat, (i : Int) < u.1 98 l → ¬ (rideM u (u.1 102 l).toNat (u.1 103 l).toNat (inM u l) i).2.2.2 = true := by
  have e : inM u = inM σ := by
    funext l k
    unfold inM
    rw [f.1 97 (by decide) (by decide)]
  rw [e, f.1 98 (by decide) (by decide), f.1 102 (by decide) (by decide), f.1 103 (by decide) (by decide)]
  intro l hl i hi
  rw [(f.ride _ _).1]
  exact h.no l hl i hi
theorem JJ.flt (h : JJ σ n ty R D) (f : MQr σ u) : ∀ l, l < n → (0 ≤ u.1 102 l ∧ u.1 102 l < 4) ∧ 0 ≤ u.1 103 l ∧ u.1 103 l < 4 := by
  rw [f.1 102 (by decide) (by decide), f.1 103 (by decide) (by decide)]
  exact h.ltM
theorem JJ.fk1 (h : JJ σ n ty R D) (f : MQr σ u) : ∀ l, l < n → 1 ≤ u.1 98 l := by
  rw [f.1 98 (by decide) (by decide)]
  exact fun l hl => (h.2.2.2.2.2.2.2 l hl).2.2.1.1
/-- what the class is asked -/
theorem JJ.c1 (h : JJ σ n ty R D) : 0 ≤ σ.1 0 1 ∧ σ.1 0 1 ≤ 4 := by
  have hc := h.2.1
  unfold JC at hc
  omega
theorem JJ.c3 (h : JJ σ n ty R D) : 0 ≤ σ.1 0 3 ∧ σ.1 0 3 ≤ 4 := by
  have hc := h.2.1
  unfold JC at hc
  omega
theorem JJ.c5 (h : JJ σ n ty R D) : σ.1 0 5 = (ty : Int) := by
  have hc := h.2.1
  unfold JC at hc
  omega
theorem JJ.b1 (h : JJ σ n ty R D) : σ.1 5 1 = (n : Int) := by
  have hc := h.2.1
  unfold JC at hc
  omega
theorem JJ.b30 (h : JJ σ n ty R D) : σ.1 5 1 ≤ 30 := by
  have hc := h.2.1
  unfold JC at hc
  omega
theorem JJ.s1 (h : JJ σ n ty R D) : σ.1 67 1 = (R : Int) := by
  have hc := h.2.1
  unfold JC at hc
  omega
theorem JJ.s10 (h : JJ σ n ty R D) : σ.1 67 1 ≤ 10 := by
  have hc := h.2.1
  unfold JC at hc
  omega
theorem JJ.s3 (h : JJ σ n ty R D) : σ.1 67 3 = (D : Int) := by
  have hc := h.2.1
  unfold JC at hc
  omega
theorem JJ.t2 (h : JJ σ n ty R D) : ∀ t, t < 4 → 0 ≤ σ.1 (73 + 3 * t) 2 ∧ σ.1 (73 + 3 * t) 2 ≤ 12 := fun t ht => ⟨(h.Tk t ht).1, (h.Tk t ht).2.1⟩
theorem JJ.i3 (h : JJ σ n ty R D) : ∀ i, i < 60 → 0 ≤ σ.1 3 i ∧ σ.1 3 i < 65536 := fun i hi => (h.2.2.2.1.1 i hi).1
theorem JJ.il (h : JJ σ n ty R D) : ∀ l, l < n → ∀ i, i < 60 → 0 ≤ σ.1 (7 + 2 * l + 1) i ∧ σ.1 (7 + 2 * l + 1) i < 65536 := fun l hl i hi => h.2.2.2.1.2.2.2 l (by have := h.n30; omega) i hi
theorem JJ.l1 (h : JJ σ n ty R D) : ∀ l, l < n → 0 ≤ σ.1 (7 + 2 * l) 1 ∧ σ.1 (7 + 2 * l) 1 ≤ 60 := fun l hl => by
  have m := h.LB.2.2 l hl
  unfold LR at m
  omega
theorem JJ.l9 (h : JJ σ n ty R D) : ∀ l : Nat, (l : Int) < σ.1 5 1 → σ.1 (7 + 2 * l) 9 = 0 ∨ σ.1 (7 + 2 * l) 9 = 1 := fun l hl => by
  have := h.b1
  have m := h.LB.2.2 l (by omega)
  unfold LR at m
  omega
theorem unlF_bd {a b : Nat → Int} {t : Int} : ∀ T, 0 ≤ unlF a b t T ∧ unlF a b t T ≤ T := by
  intro T
  exact unlF_b T
theorem JJ.pb (h : JJ σ n ty R D) : -2147483648 ≤ sumF (fun l => σ.1 (7 + 2 * l) 12) n ∧ sumF (fun l => σ.1 (7 + 2 * l) 12) n ≤ 2147483647 := by
  have hn := h.n30
  have hb := sumF_b2 (f := fun l => σ.1 (7 + 2 * l) 12) (c := 60) (m := n) (fun l hl => by
    have e := (h.2.2.2.2.2.2.2 l hl).1
    have m := (h.2.2.2.2.2.2.2 l hl).2.1
    unfold JE at e
    unfold MR at m
    show 0 ≤ σ.1 (7 + 2 * l) 12 ∧ σ.1 (7 + 2 * l) 12 ≤ 60
    rw [e.2.2.2.2.2.2.2.2.2.2]
    unfold prtM
    split
    · omega
    · have := unlF_bd (a := inM σ l) (b := inM σ (σ.1 106 l).toNat) (t := σ.1 98 (σ.1 106 l).toNat) (σ.1 98 l).toNat
      omega) n (Nat.le_refl n)
  omega
theorem JJ.je (h : JJ σ n ty R D) {a : Int} (ha : 0 ≤ a ∧ a < (n : Int)) : JE σ a.toNat ∧ MR σ a.toNat ∧ JB σ a.toNat := ⟨(h.2.2.2.2.2.2.2 a.toNat (by omega)).1, (h.2.2.2.2.2.2.2 a.toNat (by omega)).2.1, (h.2.2.2.2.2.2.2 a.toNat (by omega)).2.2.1⟩
theorem JJ.jt (h : JJ σ n ty R D) {a : Int} (ha : 0 ≤ a ∧ a < σ.1 0 1) : JT σ n a.toNat := h.2.2.2.2.2.1 a.toNat (by have := h.c1; omega)
end RU
theorem sw_e0 {σ : St} {v : Int} : (sw σ 89 0 v).1 89 0 = v := sw_same σ 89 0 v
