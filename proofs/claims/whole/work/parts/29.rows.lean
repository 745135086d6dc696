
theorem cL_12 {g : Geo} {f : Nat → Int} {x : Int × UInt64} {n : Nat} (h : kd n = 12) : cL g f x n = .inl (gc g 12, 1, .inr (.inl (fun k => if k = 0 then lI x.1 else 0))) := by simp [cL, h]
theorem cL_13 {g : Geo} {f : Nat → Int} {x : Int × UInt64} {n : Nat} (h : kd n = 13) : cL g f x n = .inl (gc g 13, 1, .inr (.inr (.inr (.inl (fun k => if k = 0 then x.2 else 0))))) := by simp [cL, h]
theorem kd_12 : ∀ n, n < 112 → kd n = 12 → n = 110 := by decide +kernel
theorem kd_13 : ∀ n, n < 112 → kd n = 13 → n = 111 := by decide +kernel
theorem cL_x1 {g : Geo} {f : Nat → Int} {x : Int} {y : Int × UInt64} {m : Nat} (hm : m < 112) (hne : m ≠ 110) : cL g f (x, y.2) m = cL g f y m := by
  have h : kd m ≠ 12 := fun q => hne (kd_12 m hm q)
  unfold cL
  rw [if_neg h, if_neg h]
theorem cL_x2 {g : Geo} {f : Nat → Int} {x : UInt64} {y : Int × UInt64} {m : Nat} (hm : m < 112) (hne : m ≠ 111) : cL g f (y.1, x) m = cL g f y m := by
  have h : kd m ≠ 13 := fun q => hne (kd_13 m hm q)
  unfold cL
  rw [if_neg h, if_neg h]

/-! what a rounding encodes is no NaN -/
def fpX (f : FP.Core.Fmt) (n : Nat) : Prop := ∃ s e t : Nat, n = (s * f.exps + e) * f.tails + t ∧ s ≤ 1 ∧ ((e + 2 ≤ f.exps ∧ t < f.tails) ∨ (e + 1 = f.exps ∧ t = 0))
def fpF (f : FP.Core.Fmt) : Prop := f.tails + f.tails = 2 ^ f.p ∧ 0 < f.tails ∧ 2 ≤ f.exps ∧ f.qmin ≤ f.qmax ∧ (f.qmax - f.qmin).toNat + 3 ≤ f.exps
theorem fp_32 : fpF FP.Core.b32 := by unfold fpF; decide +kernel
theorem fp_64 : fpF FP.Core.b64 := by unfold fpF; decide +kernel
theorem fp_enc {f : FP.Core.Fmt} (hf : fpF f) {d : FP.Core.Datum} (h : (∃ s, d = .inf s) ∨ ∃ s c q, d = .fin s c q ∧ c < 2 ^ f.p ∧ q ≤ f.qmax) : fpX f (FP.Core.encode f d) := by
  obtain ⟨h1, h2, h3, h4, h5⟩ := hf
  rcases h with ⟨s, rfl⟩ | ⟨s, c, q, rfl, hc, hq⟩
  · exact ⟨s.toNat, f.exps - 1, 0, rfl, by cases s <;> decide, Or.inr ⟨by omega, rfl⟩⟩
  · unfold FP.Core.encode
    simp only
    split
    · exact ⟨s.toNat, 0, c, rfl, by cases s <;> decide, Or.inl ⟨by omega, by omega⟩⟩
    · exact ⟨s.toNat, (q - f.qmin).toNat + 1, c - f.tails, rfl, by cases s <;> decide, Or.inl ⟨by omega, by omega⟩⟩
theorem fp_bound {f : FP.Core.Fmt} {s : Bool} {c : Nat} {q : Int} (hc : c < 2 ^ f.p) : (∃ s', FP.Core.bound f s c q = .inf s') ∨ ∃ s' c' q', FP.Core.bound f s c q = .fin s' c' q' ∧ c' < 2 ^ f.p ∧ q' ≤ f.qmax := by
  unfold FP.Core.bound
  split
  · exact Or.inr ⟨s, c, q, rfl, hc, by assumption⟩
  · exact Or.inl ⟨s, rfl⟩
theorem fp_rr {f : FP.Core.Fmt} (hf : fpF f) {s : Bool} {a b : Nat} {e : Int} : (∃ s', FP.Core.roundRatio f s a b e = .inf s') ∨ ∃ s' c' q', FP.Core.roundRatio f s a b e = .fin s' c' q' ∧ c' < 2 ^ f.p ∧ q' ≤ f.qmax := by
  have h2 := hf.2.1
  have h1 := hf.1
  unfold FP.Core.roundRatio
  split
  · exact Or.inr ⟨s, 0, f.qmin, rfl, by omega, hf.2.2.2.1⟩
  · unfold FP.Core.roundAt FP.Core.settle
    split
    · exact fp_bound (by assumption)
    · exact fp_bound (by omega)
theorem fp_dec {f : FP.Core.Fmt} (hf : fpF f) {n : Nat} (h : fpX f n) : (∃ s, FP.Core.decode f n = .inf s) ∨ ∃ s c q, FP.Core.decode f n = .fin s c q := by
  obtain ⟨s, e, t, rfl, hs, h⟩ := h
  have h2 := hf.2.1
  have ht : t < f.tails := by rcases h with h | h <;> omega
  have he : e < f.exps := by rcases h with h | h <;> omega
  have hT : FP.Core.fieldT f ((s * f.exps + e) * f.tails + t) = t := by
    unfold FP.Core.fieldT
    rw [Nat.add_comm, Nat.add_mul_mod_self_right, Nat.mod_eq_of_lt ht]
  have hE : FP.Core.fieldE f ((s * f.exps + e) * f.tails + t) = e := by
    unfold FP.Core.fieldE
    rw [Nat.add_comm, Nat.add_mul_div_right _ _ h2, Nat.div_eq_of_lt ht, Nat.zero_add, Nat.add_comm, Nat.add_mul_mod_self_right, Nat.mod_eq_of_lt he]
  unfold FP.Core.decode
  rw [hE, hT]
  rcases h with h | h
  · rw [if_neg (by omega)]
    split
    · exact Or.inr ⟨_, _, _, rfl⟩
    · exact Or.inr ⟨_, _, _, rfl⟩
  · rw [if_pos (by omega), if_pos h.2]
    exact Or.inl ⟨_, rfl⟩
theorem fpX_32 {n : Nat} (h : fpX FP.Core.b32 n) : n < 4294967296 ∧ n % 2147483648 ≤ 2139095040 := by
  obtain ⟨s, e, t, rfl, hs, h⟩ := h
  have h1 : FP.Core.b32.exps = 256 := by decide +kernel
  have h2 : FP.Core.b32.tails = 8388608 := by decide +kernel
  rw [h1, h2] at h ⊢
  omega
theorem fpX_64 {n : Nat} (h : fpX FP.Core.b64 n) : n < 18446744073709551616 ∧ n % 9223372036854775808 ≤ 9218868437227405312 := by
  obtain ⟨s, e, t, rfl, hs, h⟩ := h
  have h1 : FP.Core.b64.exps = 2048 := by decide +kernel
  have h2 : FP.Core.b64.tails = 4503599627370496 := by decide +kernel
  rw [h1, h2] at h ⊢
  omega
theorem fp_n32 {n : Nat} (h : fpX FP.Core.b32 n) : vf_n32 (.ofNat n) ∧ (UInt32.ofNat n).toNat = n := by
  obtain ⟨h1, h2⟩ := fpX_32 h
  have e1 : (UInt32.ofNat n).toNat = n := by rw [UInt32.toNat_ofNat']; exact Nat.mod_eq_of_lt h1
  refine ⟨?_, e1⟩
  unfold vf_n32
  rw [UInt32.le_iff_toNat_le, UInt32.toNat_and, e1]
  have e2 : (0x7fffffff : UInt32).toNat = 2 ^ 31 - 1 := by decide
  have e3 : (0x7f800000 : UInt32).toNat = 2139095040 := by decide
  rw [e2, e3, Nat.and_two_pow_sub_one_eq_mod]
  exact h2
theorem fp_n64 {n : Nat} (h : fpX FP.Core.b64 n) : vf_n64 (.ofNat n) ∧ (UInt64.ofNat n).toNat = n := by
  obtain ⟨h1, h2⟩ := fpX_64 h
  have e1 : (UInt64.ofNat n).toNat = n := by rw [UInt64.toNat_ofNat']; exact Nat.mod_eq_of_lt h1
  refine ⟨?_, e1⟩
  unfold vf_n64
  rw [UInt64.le_iff_toNat_le, UInt64.toNat_and, e1]
  have e2 : (0x7fffffffffffffff : UInt64).toNat = 2 ^ 63 - 1 := by decide
  have e3 : (0x7ff0000000000000 : UInt64).toNat = 9218868437227405312 := by decide
  rw [e2, e3, Nat.and_two_pow_sub_one_eq_mod]
  exact h2
theorem fp_int {f : FP.Core.Fmt} (hf : fpF f) (z : Int) : fpX f (FP.Core.fromInt f z) := fp_enc hf (fp_rr hf)
/-- a number's digits aren't all zero -/
def fpP (f : FP.Core.Fmt) (n : Nat) : Bool := match FP.Core.decode f n with
  | .fin _ c _ => c != 0
  | _ => false
theorem fp_div {f : FP.Core.Fmt} (hf : fpF f) {a b : Nat} (ha : fpX f a) (hb : fpP f b = true) : fpX f (FP.Core.div f a b) := by
  unfold FP.Core.div
  apply fp_enc hf
  unfold fpP at hb
  cases hd : FP.Core.decode f b with
  | nan => rw [hd] at hb; cases hb
  | inf s => rw [hd] at hb; cases hb
  | fin s c q =>
    rw [hd] at hb
    have hc : c ≠ 0 := by simpa using hb
    rcases fp_dec hf ha with ⟨s1, e1⟩ | ⟨s1, c1, q1, e1⟩
    · rw [e1]; exact Or.inl ⟨_, rfl⟩
    · rw [e1]
      show (∃ s', (if c = 0 then _ else FP.Core.roundRatio f _ _ _ _) = _) ∨ _
      unfold FP.Core.quotient
      simp only [if_neg hc]
      exact fp_rr hf
/-- the share: both floats come from whole numbers, the second isn't 0 -/
theorem fp_pos32 : ∀ k : Nat, k < 1801 → k ≠ 0 → fpP FP.Core.b32 (FP.i2f (iN (k : Int))).toNat = true := by decide +kernel
theorem fp_pos64 : ∀ k : Nat, k < 31 → k ≠ 0 → fpP FP.Core.b64 (FP.i2d (iN (k : Int))).toNat = true := by decide +kernel
theorem fp_fdivX {x y : UInt32} (hx : fpX FP.Core.b32 x.toNat) (hy : fpP FP.Core.b32 y.toNat = true) : fpX FP.Core.b32 (FP.fdiv x y).toNat ∧ vf_n32 (FP.fdiv x y) := by
  have h := fp_n32 (fp_div fp_32 hx hy)
  exact ⟨by show fpX _ (UInt32.ofNat _).toNat; rw [h.2]; exact fp_div fp_32 hx hy, h.1⟩
theorem fp_ddivX {x y : UInt64} (hx : fpX FP.Core.b64 x.toNat) (hy : fpP FP.Core.b64 y.toNat = true) : fpX FP.Core.b64 (FP.ddiv x y).toNat ∧ vf_n64 (FP.ddiv x y) := by
  have h := fp_n64 (fp_div fp_64 hx hy)
  exact ⟨by show fpX _ (UInt64.ofNat _).toNat; rw [h.2]; exact fp_div fp_64 hx hy, h.1⟩
theorem fp_i2f (z : Int) : fpX FP.Core.b32 (FP.i2f (iN z)).toNat := by
  show fpX _ (UInt32.ofNat _).toNat
  rw [(fp_n32 (fp_int fp_32 _)).2]
  exact fp_int fp_32 _
theorem fp_i2d (z : Int) : fpX FP.Core.b64 (FP.i2d (iN z)).toNat := by
  show fpX _ (UInt64.ofNat _).toNat
  rw [(fp_n64 (fp_int fp_64 _)).2]
  exact fp_int fp_64 _
theorem fp_f2d {x : UInt32} (hx : fpX FP.Core.b32 x.toNat) : fpX FP.Core.b64 (FP.f2d x).toNat ∧ vf_n64 (FP.f2d x) := by
  have hd := fp_dec fp_32 hx
  have h1 : FP.Core.fIsNaN x = false := by
    unfold FP.Core.fIsNaN FP.Core.isNaN
    rcases hd with ⟨s, e⟩ | ⟨s, c, q, e⟩ <;> rw [e] <;> rfl
  have h2 : FP.f2d x = FP.Core.f2d x := by unfold FP.f2d; rw [h1]; rfl
  have h3 : fpX FP.Core.b64 (FP.Core.convert FP.Core.b32 FP.Core.b64 x.toNat) := by
    unfold FP.Core.convert
    apply fp_enc fp_64
    rcases hd with ⟨s, e⟩ | ⟨s, c, q, e⟩ <;> rw [e]
    · exact Or.inl ⟨_, rfl⟩
    · exact fp_rr fp_64
  rw [h2]
  have h := fp_n64 h3
  exact ⟨by show fpX _ (UInt64.ofNat _).toNat; rw [h.2]; exact h3, h.1⟩
theorem fp_cmp {x : UInt64} {op : CmpOp} (h : fpX FP.Core.b64 x.toNat) : Op.cmpValue (FP.dcmp x x) op = iN 0 := by
  have e9 : FP.dcmp x x = some .eq := by
    show FP.Core.order _ _ = _
    rcases fp_dec fp_64 h with ⟨s, e⟩ | ⟨s, c, q, e⟩ <;> rw [e]
    · show some (compare (FP.Core.signed s 1) (FP.Core.signed s 1)) = _
      rw [Std.compare_self]
    · show some (compare (FP.Core.signed s _) (FP.Core.signed s _)) = _
      rw [Std.compare_self]
  rw [e9]
  cases op <;> rfl
/-! ===== more rows ===== -/

section VR
variable {g : Geo} {p : Program} {l : Launch} {e : Env} {R : Room} {s : State} {m : MethodId} {args : Array Value} {below : List Frame} {meth : Method} {c : Code} {cc : ByteArray} {nL : Nat} {own : String} {Ts : List Cond} {k n : Nat} {Q : State → Prop} {σ : St} {pc : Nat} {lv lv' : List (Nat × Value)} {st : List Value}

theorem V_lookup (X : Cx g p l R s m args meth c cc nL own Ts) {z : Int} {dflt off : Int} {ps : Array (Int × Int)} {len : Nat} (tgt : Nat) (hz : R32 z) (d : decode cc pc = .ok (.lookupswitch dflt ps, len)) (hps : (ps.toList.zip (ps.toList.drop 1)).all (fun (a, next) => a.1 < next.1) = true) (ho : Op.lookupswitch.offset ps.toList dflt z = off) (ht : (pc : Int) + off = (tgt : Int)) (kk : V g p l e R s m args below meth c nL k n Q σ tgt lv (st)) : V g p l e R s m args below meth c nL k n Q σ pc lv (.int (iN z) :: st) := by
  obtain ⟨⟨hx, hb, hml, hown, hts⟩, hwk, hg, hl9, hlk⟩ := X
  intro H locs ls hP hS hl
  exact lv_lookup hx hb d hps (by rw [iN_toInt hz]; exact ho) ht (kk H locs ls hP hS hl)

theorem V_i2f (X : Cx g p l R s m args meth c cc nL own Ts) {z : Int} (d : decode cc pc = .ok (.i2f, 1)) (kk : V g p l e R s m args below meth c nL k n Q σ (pc + 1) lv (.float (FP.i2f (iN z)) :: st)) : V g p l e R s m args below meth c nL k n Q σ pc lv (.int (iN z) :: st) := by
  obtain ⟨⟨hx, hb, hml, hown, hts⟩, hwk, hg, hl9, hlk⟩ := X
  intro H locs ls hP hS hl
  exact lv_i2f hx hb d  (kk H locs ls hP hS hl)

theorem V_i2d (X : Cx g p l R s m args meth c cc nL own Ts) {z : Int} (d : decode cc pc = .ok (.i2d, 1)) (kk : V g p l e R s m args below meth c nL k n Q σ (pc + 1) lv (.double (FP.i2d (iN z)) :: st)) : V g p l e R s m args below meth c nL k n Q σ pc lv (.int (iN z) :: st) := by
  obtain ⟨⟨hx, hb, hml, hown, hts⟩, hwk, hg, hl9, hlk⟩ := X
  intro H locs ls hP hS hl
  exact lv_i2d hx hb d  (kk H locs ls hP hS hl)

theorem V_fconst0 (X : Cx g p l R s m args meth c cc nL own Ts)  (d : decode cc pc = .ok (.fconst 0, 1)) (kk : V g p l e R s m args below meth c nL k n Q σ (pc + 1) lv (.float FP.fconst0 :: st)) : V g p l e R s m args below meth c nL k n Q σ pc lv (st) := by
  obtain ⟨⟨hx, hb, hml, hown, hts⟩, hwk, hg, hl9, hlk⟩ := X
  intro H locs ls hP hS hl
  exact lv_fconst0 hx hb d  (kk H locs ls hP hS hl)

theorem V_dconst0 (X : Cx g p l R s m args meth c cc nL own Ts)  (d : decode cc pc = .ok (.dconst 0, 1)) (kk : V g p l e R s m args below meth c nL k n Q σ (pc + 1) lv (.double FP.dconst0 :: st)) : V g p l e R s m args below meth c nL k n Q σ pc lv (st) := by
  obtain ⟨⟨hx, hb, hml, hown, hts⟩, hwk, hg, hl9, hlk⟩ := X
  intro H locs ls hP hS hl
  exact lv_dconst0 hx hb d  (kk H locs ls hP hS hl)

theorem V_fdiv (X : Cx g p l R s m args meth c cc nL own Ts) {x y : UInt32} (h : vf_n32 (FP.fdiv x y)) (d : decode cc pc = .ok (.fdiv, 1)) (kk : V g p l e R s m args below meth c nL k n Q σ (pc + 1) lv (.float (FP.fdiv x y) :: st)) : V g p l e R s m args below meth c nL k n Q σ pc lv (.float y :: .float x :: st) := by
  obtain ⟨⟨hx, hb, hml, hown, hts⟩, hwk, hg, hl9, hlk⟩ := X
  intro H locs ls hP hS hl
  exact lv_fdiv hx hb d h (kk H locs ls hP hS hl)

theorem V_ddiv (X : Cx g p l R s m args meth c cc nL own Ts) {x y : UInt64} (h : vf_n64 (FP.ddiv x y)) (d : decode cc pc = .ok (.ddiv, 1)) (kk : V g p l e R s m args below meth c nL k n Q σ (pc + 1) lv (.double (FP.ddiv x y) :: st)) : V g p l e R s m args below meth c nL k n Q σ pc lv (.double y :: .double x :: st) := by
  obtain ⟨⟨hx, hb, hml, hown, hts⟩, hwk, hg, hl9, hlk⟩ := X
  intro H locs ls hP hS hl
  exact lv_ddiv hx hb d h (kk H locs ls hP hS hl)

theorem V_f2d (X : Cx g p l R s m args meth c cc nL own Ts) {x : UInt32} (h : vf_n64 (FP.f2d x)) (d : decode cc pc = .ok (.f2d, 1)) (kk : V g p l e R s m args below meth c nL k n Q σ (pc + 1) lv (.double (FP.f2d x) :: st)) : V g p l e R s m args below meth c nL k n Q σ pc lv (.float x :: st) := by
  obtain ⟨⟨hx, hb, hml, hown, hts⟩, hwk, hg, hl9, hlk⟩ := X
  intro H locs ls hP hS hl
  exact lv_f2d hx hb d h (kk H locs ls hP hS hl)

theorem V_i2c (X : Cx g p l R s m args meth c cc nL own Ts) {x y : Int} (h : ((iN x).toUInt32 % 65536).toInt32 = iN y) (d : decode cc pc = .ok (.i2c, 1)) (kk : V g p l e R s m args below meth c nL k n Q σ (pc + 1) lv (.int (iN y) :: st)) : V g p l e R s m args below meth c nL k n Q σ pc lv (.int (iN x) :: st) := by
  obtain ⟨⟨hx, hb, hml, hown, hts⟩, hwk, hg, hl9, hlk⟩ := X
  intro H locs ls hP hS hl
  exact lv_i2c hx hb d h (kk H locs ls hP hS hl)

theorem V_iand (X : Cx g p l R s m args meth c cc nL own Ts) {x y z : Int} (h : iN x &&& iN y = iN z) (d : decode cc pc = .ok (.iand, 1)) (kk : V g p l e R s m args below meth c nL k n Q σ (pc + 1) lv (.int (iN z) :: st)) : V g p l e R s m args below meth c nL k n Q σ pc lv (.int (iN y) :: .int (iN x) :: st) := by
  obtain ⟨⟨hx, hb, hml, hown, hts⟩, hwk, hg, hl9, hlk⟩ := X
  intro H locs ls hP hS hl
  exact lv_iand hx hb d (by rw [h]; exact kk H locs ls hP hS hl)

theorem V_ior (X : Cx g p l R s m args meth c cc nL own Ts) {x y z : Int} (h : iN x ||| iN y = iN z) (d : decode cc pc = .ok (.ior, 1)) (kk : V g p l e R s m args below meth c nL k n Q σ (pc + 1) lv (.int (iN z) :: st)) : V g p l e R s m args below meth c nL k n Q σ pc lv (.int (iN y) :: .int (iN x) :: st) := by
  obtain ⟨⟨hx, hb, hml, hown, hts⟩, hwk, hg, hl9, hlk⟩ := X
  intro H locs ls hP hS hl
  exact lv_ior hx hb d (by rw [h]; exact kk H locs ls hP hS hl)

theorem V_lcmpE (X : Cx g p l R s m args meth c cc nL own Ts) {x : Int64} (d : decode cc pc = .ok (.lcmp, 1)) (kk : V g p l e R s m args below meth c nL k n Q σ (pc + 1) lv (.int (iN 0) :: st)) : V g p l e R s m args below meth c nL k n Q σ pc lv (.long x :: .long x :: st) := by
  obtain ⟨⟨hx, hb, hml, hown, hts⟩, hwk, hg, hl9, hlk⟩ := X
  intro H locs ls hP hS hl
  have e9 : lg_cmp x x = iN 0 := by simp [lg_cmp]; rfl
  exact W.lcmp hx hb d (by rw [e9]; exact kk H locs ls hP hS hl)

theorem V_dcmpE (X : Cx g p l R s m args meth c cc nL own Ts) {x : UInt64} {op : CmpOp} (h : fpX FP.Core.b64 x.toNat) (d : decode cc pc = .ok (.dcmp op, 1)) (kk : V g p l e R s m args below meth c nL k n Q σ (pc + 1) lv (.int (iN 0) :: st)) : V g p l e R s m args below meth c nL k n Q σ pc lv (.double x :: .double x :: st) := by
  obtain ⟨⟨hx, hb, hml, hown, hts⟩, hwk, hg, hl9, hlk⟩ := X
  intro H locs ls hP hS hl
  have e9 : Op.cmpValue (FP.dcmp x x) op = iN 0 := fp_cmp h
  exact lv_dcmp hx hb d (by rw [e9]; exact kk H locs ls hP hS hl)

theorem V_laload (X : Cx g p l R s m args meth c cc nL own Ts) (d : decode cc pc = .ok (.laload, 1)) (kk : V g p l e R s m args below meth c nL k n Q σ (pc + 1) lv (.long (lI σ.2.1) :: st)) : V g p l e R s m args below meth c nL k n Q σ pc lv (.int (iN 0) :: .ref (ga g 110) :: st) := by
  obtain ⟨⟨hx, hb, hml, hown, hts⟩, hwk, hg, hl9, hlk⟩ := X
  intro H locs ls hP hS hl
  have he := cells_at (g := g) (σ := σ) (n := 110) (by decide)
  rw [cL_12 rfl] at he
  refine va_lald hx hb hwk.1 hP 110 3 he rfl (by unfold vp_in; decide) d ?_
  exact kk H locs ls hP hS hl

theorem V_daload (X : Cx g p l R s m args meth c cc nL own Ts) (d : decode cc pc = .ok (.daload, 1)) (kk : V g p l e R s m args below meth c nL k n Q σ (pc + 1) lv (.double σ.2.2 :: st)) : V g p l e R s m args below meth c nL k n Q σ pc lv (.int (iN 0) :: .ref (ga g 111) :: st) := by
  obtain ⟨⟨hx, hb, hml, hown, hts⟩, hwk, hg, hl9, hlk⟩ := X
  intro H locs ls hP hS hl
  have he := cells_at (g := g) (σ := σ) (n := 111) (by decide)
  rw [cL_13 rfl] at he
  refine va_dald hx hb hwk.1 hP 111 4 he rfl (by unfold vp_in; decide) d ?_
  exact kk H locs ls hP hS hl

theorem V_lastore (X : Cx g p l R s m args meth c cc nL own Ts) {x : Int} (d : decode cc pc = .ok (.lastore, 1)) (kk : V g p l e R s m args below meth c nL k n Q (σ.1, x, σ.2.2) (pc + 1) lv (st)) : V g p l e R s m args below meth c nL k n Q σ pc lv (.long (lI x) :: .int (iN 0) :: .ref (ga g 110) :: st) := by
  obtain ⟨⟨hx, hb, hml, hown, hts⟩, hwk, hg, hl9, hlk⟩ := X
  intro H locs ls hP hS hl
  have he := cells_at (g := g) (σ := σ) (n := 110) (by decide)
  rw [cL_12 rfl] at he
  refine va_last hx hb hwk.1 hP (hg.D σ) hS 110 3 he rfl (by unfold vp_in; decide) d (fun H1 locs1 hP1 _ hS1 => kk H1 locs1 ls ?_ hS1 hl)
  have z0 : (iN 0).toNatClampNeg = 0 := by decide
  have z1 : vp_updL (fun k => if k = 0 then lI σ.2.1 else 0) 0 (lI x) = fun k => if k = 0 then lI x else 0 := by funext q; unfold vp_updL; by_cases hq : q = 0 <;> simp [hq]
  rw [z0, z1, cells_set2 (n := 110) (x := (x, σ.2.2)) (by decide) (cL_12 rfl) (fun m hm hne => cL_x1 hm hne)] at hP1
  exact hP1

theorem V_dastore (X : Cx g p l R s m args meth c cc nL own Ts) {x : UInt64} (d : decode cc pc = .ok (.dastore, 1)) (kk : V g p l e R s m args below meth c nL k n Q (σ.1, σ.2.1, x) (pc + 1) lv (st)) : V g p l e R s m args below meth c nL k n Q σ pc lv (.double x :: .int (iN 0) :: .ref (ga g 111) :: st) := by
  obtain ⟨⟨hx, hb, hml, hown, hts⟩, hwk, hg, hl9, hlk⟩ := X
  intro H locs ls hP hS hl
  have he := cells_at (g := g) (σ := σ) (n := 111) (by decide)
  rw [cL_13 rfl] at he
  refine va_dast hx hb hwk.1 hP (hg.D σ) hS 111 4 he rfl (by unfold vp_in; decide) d (fun H1 locs1 hP1 _ hS1 => kk H1 locs1 ls ?_ hS1 hl)
  have z0 : (iN 0).toNatClampNeg = 0 := by decide
  have z1 : vf_upd (fun k => if k = 0 then σ.2.2 else 0) 0 x = fun k => if k = 0 then x else 0 := by funext q; unfold vf_upd; by_cases hq : q = 0 <;> simp [hq]
  rw [z0, z1, cells_set2 (n := 111) (x := (σ.2.1, x)) (by decide) (cL_13 rfl) (fun m hm hne => cL_x2 hm hne)] at hP1
  exact hP1

end VR
