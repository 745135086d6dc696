/-! ===== rows for the law ===== -/

theorem iN_toI (z : Int32) : iN z.toInt = z := Int32.ofInt_toInt z
theorem R32_toI (z : Int32) : R32 z.toInt := ⟨by have := Int32.le_toInt z; omega, by have := Int32.toInt_lt z; omega⟩
section VR
variable {g : Geo} {p : Program} {l : Launch} {e : Env} {R : Room} {s : State} {m : MethodId} {args : Array Value} {below : List Frame} {meth : Method} {c : Code} {cc : ByteArray} {nL : Nat} {own : String} {Ts : List Cond} {k n : Nat} {Q : State → Prop} {σ : St} {pc : Nat} {lv lv' : List (Nat × Value)} {st : List Value}
/-- a loop whose turns may make cells -/
theorem V_upk {N dk dn : Nat} (I : Nat → St → List (Nat × Value) → Prop) (hI : I 0 σ lv)
    (hx : ∀ u lv1, I N u lv1 → V g p l e R s m args below meth c nL (k + N * dk) (n + N * dn) Q u pc lv1 st)
    (hs : ∀ i u lv1, i < N → I i u lv1 → (∀ u2 lv2, I (i + 1) u2 lv2 → V g p l e R s m args below meth c nL (k + i * dk + dk) (n + i * dn + dn) Q u2 pc lv2 st) → V g p l e R s m args below meth c nL (k + i * dk) (n + i * dn) Q u pc lv1 st) : V g p l e R s m args below meth c nL k n Q σ pc lv st := by
  have key : ∀ (d i : Nat) (u : St) (lv1 : List (Nat × Value)), i + d = N → I i u lv1 → V g p l e R s m args below meth c nL (k + i * dk) (n + i * dn) Q u pc lv1 st := by
    intro d
    induction d with
    | zero =>
      intro i u lv1 h hI1
      have : i = N := by omega
      subst this
      exact hx u lv1 hI1
    | succ d ih =>
      intro i u lv1 h hI1
      refine hs i u lv1 (by omega) hI1 (fun u2 lv2 h2 => ?_)
      have := ih (i + 1) u2 lv2 (by omega) h2
      rw [Nat.add_mul, Nat.add_mul, Nat.one_mul, Nat.one_mul, ← Nat.add_assoc, ← Nat.add_assoc] at this
      exact this
  have := key N 0 σ lv (by omega) hI
  rw [Nat.zero_mul, Nat.zero_mul, Nat.add_zero, Nat.add_zero] at this
  exact this

theorem V_sld (X : Cx g p l R s m args meth c cc nL own Ts) {b L : Nat} {xs : Nat → Int32} {i : Int} (hXs : va_X b L xs s s.heap) (hbl : b < s.heap.size) (hbA : ¬ gA g b) (j : Nat) (hij : i = (j : Int)) (hj : j < L) (hL : L ≤ 2147483647) (d : decode cc pc = .ok (.iaload, 1)) (kk : V g p l e R s m args below meth c nL k n Q σ (pc + 1) lv (.int (iN (xs j).toInt) :: st)) : V g p l e R s m args below meth c nL k n Q σ pc lv (.int (iN i) :: .ref b :: st) := by
  obtain ⟨⟨hx, hb, hml, hown, hts⟩, hwk, hg, hl9, hlk⟩ := X
  intro H locs ls hP hS hl
  refine va_sld hx hb hXs hbl hbA hS (iN_in (by omega) (by omega) hL) d ?_
  rw [iN_clamp ⟨by omega, by omega⟩, show i.toNat = j by omega, ← iN_toI (xs j)]
  exact kk H locs ls hP hS hl

theorem V_slen (X : Cx g p l R s m args meth c cc nL own Ts) {b L : Nat} {xs : Nat → Int32} (hXs : va_X b L xs s s.heap) (hbl : b < s.heap.size) (hbA : ¬ gA g b) (d : decode cc pc = .ok (.arraylength, 1)) (kk : V g p l e R s m args below meth c nL k n Q σ (pc + 1) lv (.int (iN (L : Int)) :: st)) : V g p l e R s m args below meth c nL k n Q σ pc lv (.ref b :: st) := by
  obtain ⟨⟨hx, hb, hml, hown, hts⟩, hwk, hg, hl9, hlk⟩ := X
  intro H locs ls hP hS hl
  refine va_slen hx hb hXs hbl hbA hS d ?_
  rw [← Int32.ofInt_eq_ofNat]
  exact kk H locs ls hP hS hl

theorem V_tabOut (X : Cx g p l R s m args meth c cc nL own Ts) {z dflt lo hi : Int} {offs : Array Int} {len : Nat} (tgt : Nat) (hz : R32 z) (d : decode cc pc = .ok (.tableswitch dflt lo hi offs, len)) (h : z < lo ∨ hi < z) (ht : (pc : Int) + dflt = (tgt : Int)) (kk : V g p l e R s m args below meth c nL k n Q σ tgt lv (st)) : V g p l e R s m args below meth c nL k n Q σ pc lv (.int (iN z) :: st) := by
  obtain ⟨⟨hx, hb, hml, hown, hts⟩, hwk, hg, hl9, hlk⟩ := X
  intro H locs ls hP hS hl
  exact lv_tableOut hx hb d (by rw [iN_toInt hz]; exact h) ht (kk H locs ls hP hS hl)

theorem V_tabIn (X : Cx g p l R s m args meth c cc nL own Ts) {z dflt lo hi off : Int} {offs : Array Int} {len : Nat} (tgt : Nat) (hz : R32 z) (d : decode cc pc = .ok (.tableswitch dflt lo hi offs, len)) (h1 : ¬ z < lo) (h2 : ¬ hi < z) (ho : offs[(z - lo).toNat]? = some off) (ht : (pc : Int) + off = (tgt : Int)) (kk : V g p l e R s m args below meth c nL k n Q σ tgt lv (st)) : V g p l e R s m args below meth c nL k n Q σ pc lv (.int (iN z) :: st) := by
  obtain ⟨⟨hx, hb, hml, hown, hts⟩, hwk, hg, hl9, hlk⟩ := X
  intro H locs ls hP hS hl
  exact lv_tableIn hx hb d (by rw [iN_toInt hz]; exact h1) (by rw [iN_toInt hz]; exact h2) (by rw [iN_toInt hz]; exact ho) ht (kk H locs ls hP hS hl)

end VR
