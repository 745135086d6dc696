/-! ===== the law's walk: rows, the start ===== -/
section VL
variable {g : Geo} {p : Program} {l : Launch} {e : Env} {R : Room} {s : State} {m : MethodId} {args : Array Value} {below : List Frame} {meth : Method} {c : Code} {cc : ByteArray} {nL : Nat} {own : String} {Ts : List Cond} {k n : Nat} {Q : State → Prop} {σ : St} {pc : Nat} {lv lv' : List (Nat × Value)} {st st' : List Value}
theorem V_stk (h : st = st') (kk : V g p l e R s m args below meth c nL k n Q σ pc lv st') : V g p l e R s m args below meth c nL k n Q σ pc lv st := h ▸ kk
theorem VP_V (kk : V g p l e R s m args below meth c nL k n Q σ pc lv st) : VP g p l e R s m args below meth c nL k n Q 112 (fun n => cL g (σ.1 n) σ.2 n) pc lv st := fun H locs ls hP hS hl => kk H locs ls hP.1 hS hl
end VL
theorem iN_nI (j : Nat) : iN (j : Int) = nI j := by
  show Int32.ofInt _ = Int32.ofNat _
  rw [Int32.ofInt_eq_ofNat]
def chI (x : Int) : Int := (((iN x).toBitVec.toNat % 65536 : Nat) : Int)
theorem chI_e (x : Int) : ((iN x).toUInt32 % 65536).toInt32 = iN (chI x) := by
  unfold chI
  rw [iN_nI]
  exact pk_char (iN x)
theorem chI_b (x : Int) : 0 ≤ chI x ∧ chI x < 65536 := by
  unfold chI
  omega
theorem chI_r (x : Int) : R32 (chI x) := by
  have := chI_b x
  exact ⟨by omega, by omega⟩
theorem and63 (x : Int) : ∃ z : Int, (0 ≤ z ∧ z ≤ 63) ∧ iN x &&& iN 63 = iN z := by
  obtain ⟨j, hj, e⟩ := pk_andE (iN x) (m := iN 63) 6 (by decide)
  exact ⟨(j : Int), ⟨by omega, by omega⟩, by rw [e, iN_nI]⟩
theorem vf_of {x : UInt64} (h : fpX FP.Core.b64 x.toNat) : vf_n64 x := by
  have := (fp_n64 h).1
  rwa [UInt64.ofNat_toNat] at this
theorem JJ.cc0 {σ : St} {n ty R D : Nat} (h : JJ σ n ty R D) : σ.1 0 3 = (((σ.1 89 5).toNat : Nat) : Int) := by
  have hc := h.2.1
  unfold JC at hc
  omega
theorem JJ.fc0 {σ u : St} {n ty R D : Nat} (h : JJ σ n ty R D) (f : MQr σ u) : u.1 89 5 = (((σ.1 89 5).toNat : Nat) : Int) := by
  have hc := h.2.1
  unfold JC at hc
  rw [f.1 89 (by decide) (by decide)]
  omega
theorem s0_z {a k : Nat} (h : ¬ (a = 67 ∧ k = 2)) : s0.1 a k = 0 := if_neg h
theorem s0_RG : RG s0 := by
  intro a k
  show R32 (if a = 67 ∧ k = 2 then -1 else 0)
  split <;> exact ⟨by decide, by decide⟩
theorem s0_J : JJ s0 0 0 0 0 ∧ JU s0 0 := by
  have z : ∀ a k, a ≠ 67 → s0.1 a k = 0 := fun a k h => s0_z (fun q => h q.1)
  have z2 : s0.1 67 2 = -1 := rfl
  refine ⟨⟨s0_RG, ?_, ⟨⟨?_, ?_⟩, ?_⟩, ⟨?_, ?_, ?_, ?_⟩, ?_, ?_, ?_, ?_⟩, ?_⟩
  · unfold JC
    rw [z 0 1 (by decide), z 89 1 (by decide), z 0 3 (by decide), z 89 5 (by decide), z 0 5 (by decide), z 89 9 (by decide), z 5 1 (by decide), z 89 11 (by decide), z 89 23 (by decide), z 89 26 (by decide), z 89 24 (by decide), z2, s0_z (a := 67) (k := 1) (by decide), s0_z (a := 67) (k := 3) (by decide)]
    omega
  · intro t ht
    rw [z 90 t (by decide)]
    omega
  · intro k hk
    rw [z 91 k (by decide), z 92 k (by decide)]
    omega
  · intro q hq
    rw [z 93 q (by decide), z 94 q (by decide), z 95 q (by decide)]
    omega
  · intro i hi
    rw [z 3 i (by decide), z 96 i (by decide)]
    omega
  · intro i hi
    omega
  · intro i hi
    rw [z 97 i (by decide)]
    omega
  · intro q hq i hi
    rw [z (7 + 2 * q + 1) i (by omega)]
    omega
  · intro r hr
    omega
  · intro t ht
    have e90 : s0.1 90 t = 0 := z 90 t (by decide)
    unfold JT lenM
    rw [e90]
    refine ⟨z _ _ (by omega), ?_, fun k hk => absurd hk (Nat.not_lt_zero _), ?_⟩
    · rw [z _ _ (by omega)]
      rfl
    · rw [z _ _ (by omega)]
      rfl
  · intro q hq
    unfold JK
    rw [z _ 0 (by omega), z _ 1 (by omega), z _ 2 (by omega), z 93 q (by decide), z 94 q (by decide), z 95 q (by decide)]
    omega
  · intro q hq
    omega
  · intro q h1 h2
    rw [z _ 8 (by omega), z 100 q (by decide), z 107 q (by decide)]
    omega
/-- the law's locals at its loop's head -/
def lvL (g : Geo) (b t : Nat) : List (Nat × Value) := [(0, .ref b), (1, .ref (ga g (0))), (2, .ref (ga g (89))), (3, .ref (ga g (110))), (4, .ref (ga g (111))), (5, .int (iN (5 * (t : Int))))]

