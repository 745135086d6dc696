/-! ===== numbers ===== -/
def iN (z : Int) : Int32 := Int32.ofInt z
def R32 (z : Int) : Prop := -2147483648 ≤ z ∧ z ≤ 2147483647
theorem R32.mk {z : Int} (h1 : -2147483648 ≤ z) (h2 : z ≤ 2147483647) : R32 z := ⟨h1, h2⟩
theorem iN_toInt {z : Int} (h : R32 z) : (iN z).toInt = z := Int32.toInt_ofInt_of_le (by have := h.1; omega) (by have := h.2; omega)
theorem iN_of (x : Int32) : iN x.toInt = x := Int32.ofInt_toInt x
theorem R32_of (x : Int32) : R32 x.toInt := by
  have h1 := Int32.le_toInt x
  have h2 := Int32.toInt_lt x
  exact ⟨by omega, by omega⟩
theorem iN_add (a b : Int) : iN a + iN b = iN (a + b) := (Int32.ofInt_add a b).symm
theorem iN_sub (a b : Int) : iN a - iN b = iN (a - b) := (Int32.ofInt_sub a b).symm
theorem iN_mul (a b : Int) : iN a * iN b = iN (a * b) := (Int32.ofInt_mul a b).symm
theorem iN_lt {a b : Int} (ha : R32 a) (hb : R32 b) : iN a < iN b ↔ a < b := by
  rw [Int32.lt_iff_toInt_lt, iN_toInt ha, iN_toInt hb]
theorem iN_le {a b : Int} (ha : R32 a) (hb : R32 b) : iN a ≤ iN b ↔ a ≤ b := by
  rw [Int32.le_iff_toInt_le, iN_toInt ha, iN_toInt hb]
theorem iN_eq {a b : Int} (ha : R32 a) (hb : R32 b) : iN a = iN b ↔ a = b := by
  rw [← Int32.toInt_inj, iN_toInt ha, iN_toInt hb]
theorem iN_0 : iN 0 = 0 := by decide
theorem R32_0 : R32 0 := ⟨by decide, by decide⟩
theorem iN_clamp {z : Int} (h : R32 z) : (iN z).toNatClampNeg = z.toNat := by
  show (iN z).toInt.toNat = z.toNat
  rw [iN_toInt h]
theorem iN_in {z : Int} {n : Nat} (h0 : 0 ≤ z) (h1 : z < n) (hn : n ≤ 2147483647) : vp_in (iN z) n := by
  rw [vp_in_iff, iN_toInt ⟨by omega, by omega⟩]
  exact ⟨h0, h1⟩
theorem iN_div {a b : Int} (ha : 0 ≤ a) (ha2 : a ≤ 2147483647) (hb : 0 < b) (hb2 : b ≤ 2147483647) : iN a / iN b = iN (a / b) := by
  have h := Int32.ofInt_tdiv (a := a) (b := b) (by show (-2147483648 : Int) ≤ a; omega) (by show a ≤ (2147483647 : Int); omega) (by show (-2147483648 : Int) ≤ b; omega) (by show b ≤ (2147483647 : Int); omega)
  rw [Int.tdiv_eq_ediv_of_nonneg ha] at h
  exact h.symm
theorem iN_bool {z : Int} (h : z = 0 ∨ z = 1) : narrow .boolean (.int (iN z)) = .int (iN z) ∧ fits .boolean (.int (iN z)) = true := by
  rcases h with rfl | rfl <;> exact ⟨rfl, rfl⟩
theorem iN_char {z : Int} (h0 : 0 ≤ z) (h1 : z < 65536) : narrow .char (.int (iN z)) = .int (iN z) ∧ fits .char (.int (iN z)) = true := by
  have e : iN z = nI z.toNat := by
    have : z = (z.toNat : Int) := by omega
    rw [this]
    show Int32.ofInt _ = Int32.ofNat _
    rw [Int32.ofInt_eq_ofNat]
    rfl
  rw [e]
  exact pk_charN (by omega)
def lI (z : Int) : Int64 := Int64.ofInt z
theorem lI_add (a b : Int) : lI a + lI b = lI (a + b) := (Int64.ofInt_add a b).symm
theorem lI_mul (a b : Int) : lI a * lI b = lI (a * b) := (Int64.ofInt_mul a b).symm
theorem iN_l {a : Int} (h : R32 a) : (iN a).toInt64 = lI a := by
  have h1 := h.1
  have h2 := h.2
  exact Int32.toInt64_ofInt (by show (-2147483648 : Int) ≤ a; omega) (by show a ≤ (2147483647 : Int); omega)
theorem lI_eq {a b : Int} (ha : R32 a) (hb : R32 b) : lI a = lI b ↔ a = b := by
  have h1 := ha.1; have h2 := ha.2; have h3 := hb.1; have h4 := hb.2
  constructor
  · intro h
    have := congrArg Int64.toInt h
    rw [show (lI a).toInt = a from Int64.toInt_ofInt_of_le (by omega) (by omega), show (lI b).toInt = b from Int64.toInt_ofInt_of_le (by omega) (by omega)] at this
    exact this
  · rintro rfl; rfl
/-! ===== the world: numbered cells; what each holds ===== -/
abbrev St : Type := (Nat → Nat → Int) × Int × UInt64
abbrev Geo : Type := va_G × (Nat → ClassId) × (Nat → Nat) × Nat × Nat
def gD (g : Geo) : va_G := g.1
def gc (g : Geo) (k : Nat) : ClassId := g.2.1 k
def ga (g : Geo) (n : Nat) : Nat := g.2.2.1 n
def gh (g : Geo) : Nat := g.2.2.2.1
def gp (g : Geo) : Nat := g.2.2.2.2
def gA (g : Geo) : Nat → Prop := fun q => gh g ≤ q
/-- a row with one place changed -/
def ur (f : Nat → Int) (k : Nat) (v : Int) : Nat → Int := fun j => if j = k then v else f j
def sw (σ : St) (n k : Nat) (v : Int) : St := (fun a => if a = n then ur (σ.1 n) k v else σ.1 a, σ.2)
theorem sw_same (σ : St) (n k : Nat) (v : Int) : (sw σ n k v).1 n k = v := by simp [sw, ur]
theorem sw_row (σ : St) (n k : Nat) (v : Int) : (sw σ n k v).1 n = ur (σ.1 n) k v := by simp [sw]
theorem sw_ne {σ : St} {n k a : Nat} {v : Int} (h : a ≠ n) : (sw σ n k v).1 a = σ.1 a := by simp [sw, h]
theorem sw_get (σ : St) (n k : Nat) (v : Int) (a b : Nat) : (sw σ n k v).1 a b = if a = n ∧ b = k then v else σ.1 a b := by
  by_cases ha : a = n
  · subst ha
    by_cases hb : b = k
    · subst hb; simp [sw, ur]
    · simp [sw, ur, hb]
  · simp [sw, ha]
theorem sw_2 (σ : St) (n k : Nat) (v : Int) : (sw σ n k v).2 = σ.2 := rfl
/-- the kind of a cell: 0..7 the objects' classes (vwCl), 8 char[], 9 int[], 10 boolean[], 12 long[], 13 double[], 14 Track[], 15 Car[], 16 Lap[] -/
def kd (n : Nat) : Nat :=
  if n < 7 then (if n = 0 then 6 else if n = 1 then 14 else if n = 2 then 15 else if n = 3 then 8 else if n = 4 then 3 else if n = 5 then 0 else 16)
  else if n < 67 then (if n % 2 = 1 then 2 else 8)
  else if n < 73 then (if n = 67 then 4 else 9)
  else if n < 85 then (if n % 3 = 1 then 5 else 9)
  else if n < 89 then 1
  else if n = 89 then 7
  else if n = 96 then 8 else if n = 97 then 8 else if n = 107 then 10 else if n = 110 then 12 else if n = 111 then 13 else 9
def ln (n : Nat) : Nat :=
  if n < 7 then (if n = 3 then 60 else if n = 6 then 30 else 4)
  else if n < 67 then 60
  else if n < 73 then (if n = 68 then 10 else if n = 70 then 60 else 6)
  else if n < 89 then 12
  else if n < 96 then (if n = 91 then 48 else if n = 92 then 48 else 4)
  else if n = 96 then 60 else if n = 97 then 1800 else if n < 108 then 30 else if n < 110 then 10 else 1
def flds (g : Geo) (f : Nat → Int) (ci n : Nat) : List Value :=
  match ci with
  | 0 => [.ref (ga g 6), .int (iN (f 1))]
  | 1 => [.int (iN (f 0)), .int (iN (f 1)), .int (iN (f 2))]
  | 2 => [.ref (ga g (n + 1)), .int (iN (f 1)), .int (iN (f 2)), .int (iN (f 3)), .int (iN (f 4)), .int (iN (f 5)), .int (iN (f 6)), .int (iN (f 7)), .int (iN (f 8)), .int (iN (f 9)), .int (iN (f 10)), .int (iN (f 11)), .int (iN (f 12))]
  | 3 => [.int (iN (f 0)), .int (iN (f 1)), .int (iN (f 2)), .int (iN (f 3)), .int (iN (f 4))]
  | 4 => [.ref (ga g 68), .int (iN (f 1)), .int (iN (f 2)), .int (iN (f 3)), .ref (ga g 69), .ref (ga g 70), .ref (ga g 71), .ref (ga g 72)]
  | 5 => [.ref (ga g (n + 1)), .ref (ga g (n + 2)), .int (iN (f 2)), .int (iN (f 3)), .int (iN (f 4))]
  | 6 => [.ref (ga g 1), .int (iN (f 1)), .ref (ga g 2), .int (iN (f 3)), .ref (ga g 3), .int (iN (f 5)), .ref (ga g 4), .ref (ga g 5), .ref (ga g 67)]
  | _ => [.int (iN (f 0)), .int (iN (f 1)), .ref (ga g 90), .ref (ga g 91), .ref (ga g 92), .int (iN (f 5)), .ref (ga g 93), .ref (ga g 94), .ref (ga g 95), .int (iN (f 9)), .ref (ga g 96), .int (iN (f 11)), .ref (ga g 97), .ref (ga g 98), .ref (ga g 99), .ref (ga g 100), .ref (ga g 101), .ref (ga g 102), .ref (ga g 103), .ref (ga g 104), .ref (ga g 105), .ref (ga g 106), .ref (ga g 107), .int (iN (f 23)), .int (iN (f 24)), .ref (ga g 108), .int (iN (f 26)), .ref (ga g 109), .int (iN (f 28)), .int (iN (f 29)), .int (iN (f 30)), .int (iN (f 31))]
def cL (g : Geo) (f : Nat → Int) (x : Int × UInt64) (n : Nat) : va_E :=
  if kd n < 8 then .inr (kd n, flds g f (kd n) n)
  else if kd n < 11 then .inl (gc g (kd n), ln n, .inl (fun k => iN (f k)))
  else if kd n = 12 then .inl (gc g 12, 1, .inr (.inl (fun k => if k = 0 then lI x.1 else 0)))
  else if kd n = 13 then .inl (gc g 13, 1, .inr (.inr (.inr (.inl (fun k => if k = 0 then x.2 else 0)))))
  else if kd n = 14 then .inl (gc g 14, 4, .inr (.inr (.inr (.inr (fun k => some (ga g (73 + 3 * k)))))))
  else if kd n = 15 then .inl (gc g 15, 4, .inr (.inr (.inr (.inr (fun k => some (ga g (85 + k)))))))
  else .inl (gc g 16, 30, .inr (.inr (.inr (.inr (fun k => some (ga g (7 + 2 * k)))))))
def cells (g : Geo) (σ : St) : va_W := (List.range 112).map (fun n => (ga g n, cL g (σ.1 n) σ.2 n))
theorem cells_at {g : Geo} {σ : St} {n : Nat} (h : n < 112) : (cells g σ)[n]? = some (ga g n, cL g (σ.1 n) σ.2 n) := by
  simp [cells, h]
theorem cells_len {g : Geo} {σ : St} : (cells g σ).length = 112 := by simp [cells]
theorem cells_set {g : Geo} {σ : St} {n k : Nat} {v : Int} {e : va_E} (h : n < 112) (he : cL g (ur (σ.1 n) k v) σ.2 n = e) : (cells g σ).set n (ga g n, e) = cells g (sw σ n k v) := by
  subst he
  apply List.ext_getElem?
  intro j
  by_cases hj : j = n
  · subst hj
    rw [List.getElem?_set_self (by rw [cells_len]; exact h), cells_at h, sw_row, sw_2]
  · rw [List.getElem?_set_ne (Ne.symm hj)]
    by_cases hl : j < 112
    · rw [cells_at hl, cells_at hl, sw_ne hj, sw_2]
    · rw [List.getElem?_eq_none (by rw [cells_len]; omega), List.getElem?_eq_none (by rw [cells_len]; omega)]
theorem cells_set2 {g : Geo} {σ : St} {n : Nat} {x : Int × UInt64} {e : va_E} (h : n < 112) (he : cL g (σ.1 n) x n = e) (ho : ∀ m, m < 112 → m ≠ n → cL g (σ.1 m) x m = cL g (σ.1 m) σ.2 m) : (cells g σ).set n (ga g n, e) = cells g (σ.1, x) := by
  subst he
  apply List.ext_getElem?
  intro j
  by_cases hj : j = n
  · subst hj
    rw [List.getElem?_set_self (by rw [cells_len]; exact h), cells_at h]
  · rw [List.getElem?_set_ne (Ne.symm hj)]
    by_cases hl : j < 112
    · rw [cells_at hl, cells_at hl, ho j hl hj]
    · rw [List.getElem?_eq_none (by rw [cells_len]; omega), List.getElem?_eq_none (by rw [cells_len]; omega)]
theorem cL_obj {g : Geo} {f : Nat → Int} {x : Int × UInt64} {n ci : Nat} (h : kd n = ci) (h8 : ci < 8) : cL g f x n = .inr (ci, flds g f ci n) := by
  subst h
  simp [cL, h8]
theorem cL_arr {g : Geo} {f : Nat → Int} {x : Int × UInt64} {n ci N : Nat} (h : kd n = ci) (h8 : ¬ ci < 8) (h11 : ci < 11) (hN : ln n = N) : cL g f x n = .inl (gc g ci, N, .inl (fun k => iN (f k))) := by
  subst h; subst hN
  simp [cL, h8, h11]
theorem cL_14 {g : Geo} {f : Nat → Int} {x : Int × UInt64} {n : Nat} (h : kd n = 14) : cL g f x n = .inl (gc g 14, 4, .inr (.inr (.inr (.inr (fun k => some (ga g (73 + 3 * k))))))) := by simp [cL, h]
theorem cL_15 {g : Geo} {f : Nat → Int} {x : Int × UInt64} {n : Nat} (h : kd n = 15) : cL g f x n = .inl (gc g 15, 4, .inr (.inr (.inr (.inr (fun k => some (ga g (85 + k))))))) := by simp [cL, h]
theorem cL_16 {g : Geo} {f : Nat → Int} {x : Int × UInt64} {n : Nat} (h : kd n = 16) : cL g f x n = .inl (gc g 16, 30, .inr (.inr (.inr (.inr (fun k => some (ga g (7 + 2 * k))))))) := by simp [cL, h]
theorem kd_lap {j : Nat} (h : j < 30) : kd (7 + 2 * j) = 2 := by
  unfold kd
  rw [if_neg (by omega), if_pos (by omega), if_pos (by omega)]
theorem kd_in {j : Nat} (h : j < 30) : kd (7 + 2 * j + 1) = 8 := by
  unfold kd
  rw [if_neg (by omega), if_pos (by omega), if_neg (by omega)]
theorem ln_in {j : Nat} (h : j < 30) : ln (7 + 2 * j + 1) = 60 := by
  unfold ln
  rw [if_neg (by omega), if_pos (by omega)]
theorem kd_tr {t : Nat} (h : t < 4) : kd (73 + 3 * t) = 5 := by
  unfold kd
  rw [if_neg (by omega), if_neg (by omega), if_neg (by omega), if_pos (by omega), if_pos (by omega)]
theorem kd_tr1 {t : Nat} (h : t < 4) : kd (73 + 3 * t + 1) = 9 := by
  unfold kd
  rw [if_neg (by omega), if_neg (by omega), if_neg (by omega), if_pos (by omega), if_neg (by omega)]
theorem kd_tr2 {t : Nat} (h : t < 4) : kd (73 + 3 * t + 2) = 9 := by
  unfold kd
  rw [if_neg (by omega), if_neg (by omega), if_neg (by omega), if_pos (by omega), if_neg (by omega)]
theorem ln_tr1 {t : Nat} (h : t < 4) : ln (73 + 3 * t + 1) = 12 := by
  unfold ln
  rw [if_neg (by omega), if_neg (by omega), if_neg (by omega), if_pos (by omega)]
theorem ln_tr2 {t : Nat} (h : t < 4) : ln (73 + 3 * t + 2) = 12 := by
  unfold ln
  rw [if_neg (by omega), if_neg (by omega), if_neg (by omega), if_pos (by omega)]
theorem kd_car {c : Nat} (h : c < 4) : kd (85 + c) = 1 := by
  unfold kd
  rw [if_neg (by omega), if_neg (by omega), if_neg (by omega), if_neg (by omega), if_pos (by omega)]
/-- what the tables say of the arrays' classes -/
def tys (g : Geo) : List (ClassId × FieldType) := [(gc g 8, .char), (gc g 9, .int), (gc g 10, .boolean), (gc g 12, .long), (gc g 13, .double), (gc g 14, .object RX5), (gc g 15, .object RX1), (gc g 16, .object RX2)]
/-- the cells are apart, and newer than the law's entry -/
def GOK (g : Geo) : Prop := (∀ a b, a < 112 → b < 112 → ga g a = ga g b → a = b) ∧ ∀ a, a < 112 → gh g ≤ ga g a
theorem GOK.D {g : Geo} (h : GOK g) (σ : St) : va_D (gA g) (cells g σ) := by
  have key : ∀ (k : Nat) (q : Nat × va_E), (cells g σ)[k]? = some q → k < 112 ∧ q.1 = ga g k := by
    intro k q hk
    have hl : k < 112 := by
      have := (List.getElem?_eq_some_iff.mp hk).1
      rwa [cells_len] at this
    rw [cells_at hl] at hk
    cases hk
    exact ⟨hl, rfl⟩
  refine ⟨fun i j p q hi hj hpq => ?_, fun k q hk => ?_⟩
  · obtain ⟨a1, a2⟩ := key i p hi
    obtain ⟨b1, b2⟩ := key j q hj
    exact h.1 i j a1 b1 (by rw [← a2, ← b2]; exact hpq)
  · obtain ⟨a1, a2⟩ := key k q hk
    rw [a2]
    exact h.2 k a1
def worthP (j : Nat) : Int := if j = 0 then 10 else if j = 1 then 8 else if j = 2 then 6 else if j = 3 then 5 else if j = 4 then 4 else 3
/-- what stays outside the world: the points' row, the statics and texts that a throw needs -/
def Sta (g : Geo) (U : State) (H : Heap) : Prop :=
  va_Z "Ghostracer" "POINTS" "[I" (.ref (gp g)) (gA g) U H ∧ va_T .int (gp g) 6 (fun j => .int (iN (worthP j))) (gA g) U H ∧
  vx_Zq Bundle.tN "UNASSIGNED_STACK" Bundle.steD (gA g) U H ∧ vx_Zq Bundle.tN "SUPPRESSED_SENTINEL" Bundle.listD (gA g) U H

def texts : List (Nat × String) := [(54, "there are 4 tracks"), (69, "the length or the limit is out of range"), (78, "a lap was driven on the track"), (84, "the track has 12 stretches"), (93, "a number of the car is out of range"), (98, "there are 4 cars"), (111, "no such place"), (118, "no such input, or so often it is not typed"), (123, "more than 60 inputs"), (137, "no such ghost on this track that stands"), (146, "there are 30 laps"), (183, "the track has no stretches"), (192, "the lap would not be over"), (206, "no such input"), (211, "no such tick"), (223, "no such thing of a lap"), (229, "the lap has no ghost"), (234, "no lap of the track stands"), (239, "the lap is stored whole"), (253, "the lap is struck out"), (259, "the lap stands"), (264, "the penalty is out of range"), (272, "there are 10 rounds"), (280, "no round is open"), (291, "no such round"), (302, "the driver has no lap in the round"), (304, "so many rounds are not dropped"), (326, "there are no laps"), (331, "no lap stands"), (333, "no such track"), (335, "no such car"), (337, "no such lap"), (339, "no such driver")]


def excs : List String := ["java/lang/IllegalStateException", "java/lang/IllegalArgumentException", "java/lang/IndexOutOfBoundsException", "java/lang/UnsupportedOperationException", "java/util/NoSuchElementException"]
def dcls : List MethodName := [Bundle.initS "java/lang/RuntimeException", Bundle.initS "java/lang/Exception", Bundle.initS Bundle.tN]
/-- what the tables say of the exceptions beside the words that a call carries -/
def Wx (U : State) : Prop := (∀ E ∈ excs, va_Nw (.castable E E) U) ∧ (∀ x ∈ dcls, va_Nw (.declares x) U) ∧ (∀ a ∈ excs, ∀ b ∈ excs, a ≠ b → va_Nc a b U) ∧ va_Nw (.fieldLinkNest "Ghostracer$Season" 78 "Ghostracer" "POINTS" "[I" "Ghostracer") U
theorem Wx.warm {s U : State} (hW : s.WarmedH U.vm) (h : Wx s) : Wx U := ⟨fun E hE => va_Nw.warmC hW (h.1 E hE), fun x hx => va_Nw.warmD hW (h.2.1 x hx), fun a ha b hb n => va_Nc.moved hW.alike (h.2.2.1 a ha b hb n), va_Nw.warmF hW h.2.2.2⟩
theorem Wx.same {s U : State} (hv : s.vm = U.vm) (h : Wx s) : Wx U := ⟨fun E hE => va_Nw.same rfl hv (h.1 E hE), fun x hx => va_Nw.same rfl hv (h.2.1 x hx), fun a ha b hb n => va_Nc.moved (by rw [hv]; exact Vm.Alike.refl _) (h.2.2.1 a ha b hb n), va_Nw.same rfl hv h.2.2.2⟩
def WK (g : Geo) (U : State) : Prop := va_K (gD g) vwCl (tys g) U ∧ gh g ≤ U.heap.size ∧ Sta g U U.heap ∧ (∀ q ∈ texts, ∃ a, vk_R "Ghostracer" q.1 q.2 a U) ∧ Wx U
def World (g : Geo) (σ : St) : State → Prop := fun U => va_P (gD g) vwCl (cells g σ) U.heap ∧ WK g U ∧ GOK g
def Bw (g : Geo) (σ : St) : State → Prop := fun t => va_P (gD g) vwCl (cells g σ) t.heap
theorem Sta.kept {g : Geo} {u U : State} {H H1 : Heap} (hvm : u.vm.Alike U.vm) (hq : ∀ a : Nat, a < H.size → ¬ gA g a → H1[a]? = H[a]?) (h : Sta g u H) : Sta g U H1 :=
  ⟨va_Z.moved hvm (h.1.kept hq), va_T.moved hvm (h.2.1.kept hq), vx_Zq.moved hvm (h.2.2.1.kept hq), vx_Zq.moved hvm (h.2.2.2.kept hq)⟩
theorem World.blind {g : Geo} {σ : St} {av : List Value} : FrameBlind (va_Pc av (World g σ)) := by
  intro a U gf mk h
  obtain ⟨h1, h2, ⟨h3, h4, h5, h6, h8⟩, h7⟩ := h
  exact ⟨h1, h2, ⟨va_K.moved (u := U) (U := U.calling gf mk a) (Vm.Alike.refl U.vm) h3, h4, Sta.kept (u := U) (U := U.calling gf mk a) (Vm.Alike.refl U.vm) (fun _ _ _ => rfl) h5, fun q hq => by
    obtain ⟨b, hb⟩ := h6 q hq
    exact ⟨b, vk_R.same (u := U) rfl hb⟩, Wx.same (s := U) rfl h8⟩, h7⟩
theorem World.call {g : Geo} {σ : St} {s U : State} {H : Heap} {locs : List Loc} (hk : WK g s) (hg : GOK g) (hP : va_P (gD g) vwCl (cells g σ) H) (hS : va_S (gA g) s.heap H locs) (hU : U.heap = H) (hW : s.WarmedH U.vm) : World g σ U := by
  obtain ⟨h3, h4, h5, h6, h8⟩ := hk
  subst hU
  refine ⟨hP, ⟨va_K.moved hW.alike h3, Nat.le_trans h4 hS.1, Sta.kept hW.alike (fun a h1 h2 => hS.2.1 a h1 h2) h5, fun q hq => ?_, Wx.warm hW h8⟩, hg⟩
  obtain ⟨b, hb⟩ := h6 q hq
  exact ⟨b, vk_R.warm hW hb⟩
/-! ===== the judgement V: W, with the heap, the written places and the locals' row left open ===== -/
def Cx (g : Geo) (p : Program) (l : Launch) (R : Room) (s : State) (m : MethodId) (args : Array Value) (meth : Method) (c : Code) (cc : ByteArray) (nL : Nat) (own : String) (Ts : List Cond) : Prop :=
  CallFix p m c cc nL s args Ts own ∧ WK g s ∧ GOK g ∧ l.stackTraces = false ∧ meth.locks = false
def V (g : Geo) (p : Program) (l : Launch) (e : Env) (R : Room) (s : State) (m : MethodId) (args : Array Value) (below : List Frame) (meth : Method) (c : Code) (nL : Nat) (k n : Nat) (Q : State → Prop) (σ : St) (pc : Nat) (lv : List (Nat × Value)) (st : List Value) : Prop :=
  ∀ (H : Heap) (locs : List Loc) (ls : Array Slot), va_P (gD g) vwCl (cells g σ) H → va_S (gA g) s.heap H locs → lv_has ls nL lv → W p l e R s m args below meth c H locs k n Q (F0 m pc ls st)
section VR
variable {g : Geo} {p : Program} {l : Launch} {e : Env} {R : Room} {s : State} {m : MethodId} {args : Array Value} {below : List Frame} {meth : Method} {c : Code} {cc : ByteArray} {nL : Nat} {own : String} {Ts : List Cond} {k n : Nat} {Q : State → Prop} {σ : St} {pc : Nat} {lv lv' : List (Nat × Value)} {st : List Value}
theorem V_sub (ks : List Nat) (hl : lv_pick lv ks = lv') (kk : V g p l e R s m args below meth c nL k n Q σ pc lv' st) : V g p l e R s m args below meth c nL k n Q σ pc lv st :=
  fun H locs ls hP hS h => kk H locs ls hP hS (lv_sub h ks hl)
theorem V_st {σ' : St} (h : σ = σ') (kk : V g p l e R s m args below meth c nL k n Q σ' pc lv st) : V g p l e R s m args below meth c nL k n Q σ pc lv st := h ▸ kk
theorem V_widen {k' n' : Nat} (h1 : k ≤ k') (h2 : n ≤ n') (kk : V g p l e R s m args below meth c nL k' n' Q σ pc lv st) : V g p l e R s m args below meth c nL k n Q σ pc lv st :=
  fun H locs ls hP hS h => W.widen h1 h2 (kk H locs ls hP hS h)

theorem V_iconst (X : Cx g p l R s m args meth c cc nL own Ts) {z : Int} (d : decode cc pc = .ok (.iconst z, 1)) (kk : V g p l e R s m args below meth c nL k n Q σ (pc + 1) lv (.int (iN z) :: st)) : V g p l e R s m args below meth c nL k n Q σ pc lv (st) := by
  obtain ⟨⟨hx, hb, hml, hown, hts⟩, hwk, hg, hl9, hlk⟩ := X
  intro H locs ls hP hS hl
  exact lv_iconst hx hb d rfl (kk H locs ls hP hS hl)

theorem V_bipush (X : Cx g p l R s m args meth c cc nL own Ts) {z : Int} (h : (Int8.ofInt z).toInt32 = iN z) (d : decode cc pc = .ok (.bipush z, 2)) (kk : V g p l e R s m args below meth c nL k n Q σ (pc + 2) lv (.int (iN z) :: st)) : V g p l e R s m args below meth c nL k n Q σ pc lv (st) := by
  obtain ⟨⟨hx, hb, hml, hown, hts⟩, hwk, hg, hl9, hlk⟩ := X
  intro H locs ls hP hS hl
  exact lv_bipush hx hb d h (kk H locs ls hP hS hl)

theorem V_sipush (X : Cx g p l R s m args meth c cc nL own Ts) {z : Int} (h : (Int16.ofInt z).toInt32 = iN z) (d : decode cc pc = .ok (.sipush z, 3)) (kk : V g p l e R s m args below meth c nL k n Q σ (pc + 3) lv (.int (iN z) :: st)) : V g p l e R s m args below meth c nL k n Q σ pc lv (st) := by
  obtain ⟨⟨hx, hb, hml, hown, hts⟩, hwk, hg, hl9, hlk⟩ := X
  intro H locs ls hP hS hl
  exact lv_sipush hx hb d h (kk H locs ls hP hS hl)

theorem V_ldc (X : Cx g p l R s m args meth c cc nL own Ts) {i : Nat} {z : Int} {v : Int32} (hc : Jvm.Cond.constant own i v ∈ Ts) (hv : v = iN z) (d : decode cc pc = .ok (.ldc i, 2)) (kk : V g p l e R s m args below meth c nL k n Q σ (pc + 2) lv (.int (iN z) :: st)) : V g p l e R s m args below meth c nL k n Q σ pc lv (st) := by
  obtain ⟨⟨hx, hb, hml, hown, hts⟩, hwk, hg, hl9, hlk⟩ := X
  intro H locs ls hP hS hl
  subst hv
  exact lv_ldc hx hb hown (hts _ hc) d (kk H locs ls hP hS hl)

theorem V_lconst (X : Cx g p l R s m args meth c cc nL own Ts) {i : Fin 2} {z : Int} (hv : Int64.ofNat (i : Nat) = lI z) (d : decode cc pc = .ok (.lconst i, 1)) (kk : V g p l e R s m args below meth c nL k n Q σ (pc + 1) lv (.long (lI z) :: st)) : V g p l e R s m args below meth c nL k n Q σ pc lv (st) := by
  obtain ⟨⟨hx, hb, hml, hown, hts⟩, hwk, hg, hl9, hlk⟩ := X
  intro H locs ls hP hS hl
  exact lv_lconst hx hb d hv (kk H locs ls hP hS hl)

theorem V_ldc2 (X : Cx g p l R s m args meth c cc nL own Ts) {i : Nat} {z : Int} {v : Int64} (hc : Jvm.Cond.constantLong own i v ∈ Ts) (hv : v = lI z) (d : decode cc pc = .ok (.ldc2_w i, 3)) (kk : V g p l e R s m args below meth c nL k n Q σ (pc + 3) lv (.long (lI z) :: st)) : V g p l e R s m args below meth c nL k n Q σ pc lv (st) := by
  obtain ⟨⟨hx, hb, hml, hown, hts⟩, hwk, hg, hl9, hlk⟩ := X
  intro H locs ls hP hS hl
  subst hv
  exact lv_ldc2 hx hb hown (hts _ hc) d (kk H locs ls hP hS hl)

theorem V_iload_n (X : Cx g p l R s m args meth c cc nL own Ts) (j : Nat) {i : Nat} {x : Int32} (hj : lv[j]? = some (i, .int x)) {i4 : Fin 4} (d : decode cc pc = .ok (.iload_n i4, 1)) (hi : (i4 : Nat) = i) (kk : V g p l e R s m args below meth c nL k n Q σ (pc + 1) lv (.int x :: st)) : V g p l e R s m args below meth c nL k n Q σ pc lv (st) := by
  obtain ⟨⟨hx, hb, hml, hown, hts⟩, hwk, hg, hl9, hlk⟩ := X
  intro H locs ls hP hS hl
  exact lv_iload_n hx hb d hi (lv_at hl j hj) (kk H locs ls hP hS hl)

theorem V_iload (X : Cx g p l R s m args meth c cc nL own Ts) (j : Nat) {i : Nat} {x : Int32} (hj : lv[j]? = some (i, .int x)) (d : decode cc pc = .ok (.iload i, 2)) (kk : V g p l e R s m args below meth c nL k n Q σ (pc + 2) lv (.int x :: st)) : V g p l e R s m args below meth c nL k n Q σ pc lv (st) := by
  obtain ⟨⟨hx, hb, hml, hown, hts⟩, hwk, hg, hl9, hlk⟩ := X
  intro H locs ls hP hS hl
  exact lv_iload hx hb d (lv_at hl j hj) (kk H locs ls hP hS hl)

theorem V_istore_n (X : Cx g p l R s m args meth c cc nL own Ts) (lv1 : List (Nat × Value)) {i : Nat} {x : Int32} {i4 : Fin 4} (d : decode cc pc = .ok (.istore_n i4, 1)) (hi : (i4 : Nat) = i) (hn : i < nL) (hq : (i, Value.int x) :: lv.filter (fun q => !(q.1 == i) && !(q.1 + 1 == i && q.2.category == 2)) = lv1) (kk : V g p l e R s m args below meth c nL k n Q σ (pc + 1) lv1 (st)) : V g p l e R s m args below meth c nL k n Q σ pc lv (.int x :: st) := by
  obtain ⟨⟨hx, hb, hml, hown, hts⟩, hwk, hg, hl9, hlk⟩ := X
  intro H locs ls hP hS hl
  exact lv_istore_n hx hb d hi hl hn hq (fun ls1 hl1 => kk H locs ls1 hP hS hl1)

theorem V_istore (X : Cx g p l R s m args meth c cc nL own Ts) (lv1 : List (Nat × Value)) {i : Nat} {x : Int32} (d : decode cc pc = .ok (.istore i, 2)) (hn : i < nL) (hq : (i, Value.int x) :: lv.filter (fun q => !(q.1 == i) && !(q.1 + 1 == i && q.2.category == 2)) = lv1) (kk : V g p l e R s m args below meth c nL k n Q σ (pc + 2) lv1 (st)) : V g p l e R s m args below meth c nL k n Q σ pc lv (.int x :: st) := by
  obtain ⟨⟨hx, hb, hml, hown, hts⟩, hwk, hg, hl9, hlk⟩ := X
  intro H locs ls hP hS hl
  exact lv_istore hx hb d hl hn hq (fun ls1 hl1 => kk H locs ls1 hP hS hl1)

theorem V_aload_n (X : Cx g p l R s m args meth c cc nL own Ts) (j : Nat) {i : Nat} {x : Nat} (hj : lv[j]? = some (i, .ref x)) {i4 : Fin 4} (d : decode cc pc = .ok (.aload_n i4, 1)) (hi : (i4 : Nat) = i) (kk : V g p l e R s m args below meth c nL k n Q σ (pc + 1) lv (.ref x :: st)) : V g p l e R s m args below meth c nL k n Q σ pc lv (st) := by
  obtain ⟨⟨hx, hb, hml, hown, hts⟩, hwk, hg, hl9, hlk⟩ := X
  intro H locs ls hP hS hl
  exact lv_aload_n hx hb d hi (lv_at hl j hj) (kk H locs ls hP hS hl)

theorem V_aload (X : Cx g p l R s m args meth c cc nL own Ts) (j : Nat) {i : Nat} {x : Nat} (hj : lv[j]? = some (i, .ref x)) (d : decode cc pc = .ok (.aload i, 2)) (kk : V g p l e R s m args below meth c nL k n Q σ (pc + 2) lv (.ref x :: st)) : V g p l e R s m args below meth c nL k n Q σ pc lv (st) := by
  obtain ⟨⟨hx, hb, hml, hown, hts⟩, hwk, hg, hl9, hlk⟩ := X
  intro H locs ls hP hS hl
  exact lv_aload hx hb d (lv_at hl j hj) (kk H locs ls hP hS hl)

theorem V_astore_n (X : Cx g p l R s m args meth c cc nL own Ts) (lv1 : List (Nat × Value)) {i : Nat} {x : Nat} {i4 : Fin 4} (d : decode cc pc = .ok (.astore_n i4, 1)) (hi : (i4 : Nat) = i) (hn : i < nL) (hq : (i, Value.ref x) :: lv.filter (fun q => !(q.1 == i) && !(q.1 + 1 == i && q.2.category == 2)) = lv1) (kk : V g p l e R s m args below meth c nL k n Q σ (pc + 1) lv1 (st)) : V g p l e R s m args below meth c nL k n Q σ pc lv (.ref x :: st) := by
  obtain ⟨⟨hx, hb, hml, hown, hts⟩, hwk, hg, hl9, hlk⟩ := X
  intro H locs ls hP hS hl
  exact lv_astore_n hx hb d hi hl hn hq (fun ls1 hl1 => kk H locs ls1 hP hS hl1)

theorem V_astore (X : Cx g p l R s m args meth c cc nL own Ts) (lv1 : List (Nat × Value)) {i : Nat} {x : Nat} (d : decode cc pc = .ok (.astore i, 2)) (hn : i < nL) (hq : (i, Value.ref x) :: lv.filter (fun q => !(q.1 == i) && !(q.1 + 1 == i && q.2.category == 2)) = lv1) (kk : V g p l e R s m args below meth c nL k n Q σ (pc + 2) lv1 (st)) : V g p l e R s m args below meth c nL k n Q σ pc lv (.ref x :: st) := by
  obtain ⟨⟨hx, hb, hml, hown, hts⟩, hwk, hg, hl9, hlk⟩ := X
  intro H locs ls hP hS hl
  exact lv_astore hx hb d hl hn hq (fun ls1 hl1 => kk H locs ls1 hP hS hl1)

theorem V_lload_n (X : Cx g p l R s m args meth c cc nL own Ts) (j : Nat) {i : Nat} {x : Int64} (hj : lv[j]? = some (i, .long x)) {i4 : Fin 4} (d : decode cc pc = .ok (.lload_n i4, 1)) (hi : (i4 : Nat) = i) (kk : V g p l e R s m args below meth c nL k n Q σ (pc + 1) lv (.long x :: st)) : V g p l e R s m args below meth c nL k n Q σ pc lv (st) := by
  obtain ⟨⟨hx, hb, hml, hown, hts⟩, hwk, hg, hl9, hlk⟩ := X
  intro H locs ls hP hS hl
  exact lv_lload_n hx hb d hi (lv_at hl j hj) (kk H locs ls hP hS hl)

theorem V_lload (X : Cx g p l R s m args meth c cc nL own Ts) (j : Nat) {i : Nat} {x : Int64} (hj : lv[j]? = some (i, .long x)) (d : decode cc pc = .ok (.lload i, 2)) (kk : V g p l e R s m args below meth c nL k n Q σ (pc + 2) lv (.long x :: st)) : V g p l e R s m args below meth c nL k n Q σ pc lv (st) := by
  obtain ⟨⟨hx, hb, hml, hown, hts⟩, hwk, hg, hl9, hlk⟩ := X
  intro H locs ls hP hS hl
  exact lv_lload hx hb d (lv_at hl j hj) (kk H locs ls hP hS hl)

theorem V_lstore_n (X : Cx g p l R s m args meth c cc nL own Ts) (lv1 : List (Nat × Value)) {i : Nat} {x : Int64} {i4 : Fin 4} (d : decode cc pc = .ok (.lstore_n i4, 1)) (hi : (i4 : Nat) = i) (hn : i + 1 < nL) (hq : (i, Value.long x) :: lv.filter (fun q => !(q.1 == i) && (!(q.1 == i + 1) && !(q.1 + 1 == i && q.2.category == 2))) = lv1) (kk : V g p l e R s m args below meth c nL k n Q σ (pc + 1) lv1 (st)) : V g p l e R s m args below meth c nL k n Q σ pc lv (.long x :: st) := by
  obtain ⟨⟨hx, hb, hml, hown, hts⟩, hwk, hg, hl9, hlk⟩ := X
  intro H locs ls hP hS hl
  exact lv_lstore_n hx hb d hi hl hn hq (fun ls1 hl1 => kk H locs ls1 hP hS hl1)

theorem V_lstore (X : Cx g p l R s m args meth c cc nL own Ts) (lv1 : List (Nat × Value)) {i : Nat} {x : Int64} (d : decode cc pc = .ok (.lstore i, 2)) (hn : i + 1 < nL) (hq : (i, Value.long x) :: lv.filter (fun q => !(q.1 == i) && (!(q.1 == i + 1) && !(q.1 + 1 == i && q.2.category == 2))) = lv1) (kk : V g p l e R s m args below meth c nL k n Q σ (pc + 2) lv1 (st)) : V g p l e R s m args below meth c nL k n Q σ pc lv (.long x :: st) := by
  obtain ⟨⟨hx, hb, hml, hown, hts⟩, hwk, hg, hl9, hlk⟩ := X
  intro H locs ls hP hS hl
  exact lv_lstore hx hb d hl hn hq (fun ls1 hl1 => kk H locs ls1 hP hS hl1)

theorem V_fload_n (X : Cx g p l R s m args meth c cc nL own Ts) (j : Nat) {i : Nat} {x : UInt32} (hj : lv[j]? = some (i, .float x)) {i4 : Fin 4} (d : decode cc pc = .ok (.fload_n i4, 1)) (hi : (i4 : Nat) = i) (kk : V g p l e R s m args below meth c nL k n Q σ (pc + 1) lv (.float x :: st)) : V g p l e R s m args below meth c nL k n Q σ pc lv (st) := by
  obtain ⟨⟨hx, hb, hml, hown, hts⟩, hwk, hg, hl9, hlk⟩ := X
  intro H locs ls hP hS hl
  exact lv_fload_n hx hb d hi (lv_at hl j hj) (kk H locs ls hP hS hl)

theorem V_fload (X : Cx g p l R s m args meth c cc nL own Ts) (j : Nat) {i : Nat} {x : UInt32} (hj : lv[j]? = some (i, .float x)) (d : decode cc pc = .ok (.fload i, 2)) (kk : V g p l e R s m args below meth c nL k n Q σ (pc + 2) lv (.float x :: st)) : V g p l e R s m args below meth c nL k n Q σ pc lv (st) := by
  obtain ⟨⟨hx, hb, hml, hown, hts⟩, hwk, hg, hl9, hlk⟩ := X
  intro H locs ls hP hS hl
  exact lv_fload hx hb d (lv_at hl j hj) (kk H locs ls hP hS hl)

theorem V_fstore_n (X : Cx g p l R s m args meth c cc nL own Ts) (lv1 : List (Nat × Value)) {i : Nat} {x : UInt32} {i4 : Fin 4} (d : decode cc pc = .ok (.fstore_n i4, 1)) (hi : (i4 : Nat) = i) (hn : i < nL) (hq : (i, Value.float x) :: lv.filter (fun q => !(q.1 == i) && !(q.1 + 1 == i && q.2.category == 2)) = lv1) (kk : V g p l e R s m args below meth c nL k n Q σ (pc + 1) lv1 (st)) : V g p l e R s m args below meth c nL k n Q σ pc lv (.float x :: st) := by
  obtain ⟨⟨hx, hb, hml, hown, hts⟩, hwk, hg, hl9, hlk⟩ := X
  intro H locs ls hP hS hl
  exact lv_fstore_n hx hb d hi hl hn hq (fun ls1 hl1 => kk H locs ls1 hP hS hl1)

theorem V_fstore (X : Cx g p l R s m args meth c cc nL own Ts) (lv1 : List (Nat × Value)) {i : Nat} {x : UInt32} (d : decode cc pc = .ok (.fstore i, 2)) (hn : i < nL) (hq : (i, Value.float x) :: lv.filter (fun q => !(q.1 == i) && !(q.1 + 1 == i && q.2.category == 2)) = lv1) (kk : V g p l e R s m args below meth c nL k n Q σ (pc + 2) lv1 (st)) : V g p l e R s m args below meth c nL k n Q σ pc lv (.float x :: st) := by
  obtain ⟨⟨hx, hb, hml, hown, hts⟩, hwk, hg, hl9, hlk⟩ := X
  intro H locs ls hP hS hl
  exact lv_fstore hx hb d hl hn hq (fun ls1 hl1 => kk H locs ls1 hP hS hl1)

theorem V_dload_n (X : Cx g p l R s m args meth c cc nL own Ts) (j : Nat) {i : Nat} {x : UInt64} (hj : lv[j]? = some (i, .double x)) {i4 : Fin 4} (d : decode cc pc = .ok (.dload_n i4, 1)) (hi : (i4 : Nat) = i) (kk : V g p l e R s m args below meth c nL k n Q σ (pc + 1) lv (.double x :: st)) : V g p l e R s m args below meth c nL k n Q σ pc lv (st) := by
  obtain ⟨⟨hx, hb, hml, hown, hts⟩, hwk, hg, hl9, hlk⟩ := X
  intro H locs ls hP hS hl
  exact lv_dload_n hx hb d hi (lv_at hl j hj) (kk H locs ls hP hS hl)

theorem V_dload (X : Cx g p l R s m args meth c cc nL own Ts) (j : Nat) {i : Nat} {x : UInt64} (hj : lv[j]? = some (i, .double x)) (d : decode cc pc = .ok (.dload i, 2)) (kk : V g p l e R s m args below meth c nL k n Q σ (pc + 2) lv (.double x :: st)) : V g p l e R s m args below meth c nL k n Q σ pc lv (st) := by
  obtain ⟨⟨hx, hb, hml, hown, hts⟩, hwk, hg, hl9, hlk⟩ := X
  intro H locs ls hP hS hl
  exact lv_dload hx hb d (lv_at hl j hj) (kk H locs ls hP hS hl)

theorem V_dstore_n (X : Cx g p l R s m args meth c cc nL own Ts) (lv1 : List (Nat × Value)) {i : Nat} {x : UInt64} {i4 : Fin 4} (d : decode cc pc = .ok (.dstore_n i4, 1)) (hi : (i4 : Nat) = i) (hn : i + 1 < nL) (hq : (i, Value.double x) :: lv.filter (fun q => !(q.1 == i) && (!(q.1 == i + 1) && !(q.1 + 1 == i && q.2.category == 2))) = lv1) (kk : V g p l e R s m args below meth c nL k n Q σ (pc + 1) lv1 (st)) : V g p l e R s m args below meth c nL k n Q σ pc lv (.double x :: st) := by
  obtain ⟨⟨hx, hb, hml, hown, hts⟩, hwk, hg, hl9, hlk⟩ := X
  intro H locs ls hP hS hl
  exact lv_dstore_n hx hb d hi hl hn hq (fun ls1 hl1 => kk H locs ls1 hP hS hl1)

theorem V_dstore (X : Cx g p l R s m args meth c cc nL own Ts) (lv1 : List (Nat × Value)) {i : Nat} {x : UInt64} (d : decode cc pc = .ok (.dstore i, 2)) (hn : i + 1 < nL) (hq : (i, Value.double x) :: lv.filter (fun q => !(q.1 == i) && (!(q.1 == i + 1) && !(q.1 + 1 == i && q.2.category == 2))) = lv1) (kk : V g p l e R s m args below meth c nL k n Q σ (pc + 2) lv1 (st)) : V g p l e R s m args below meth c nL k n Q σ pc lv (.double x :: st) := by
  obtain ⟨⟨hx, hb, hml, hown, hts⟩, hwk, hg, hl9, hlk⟩ := X
  intro H locs ls hP hS hl
  exact lv_dstore hx hb d hl hn hq (fun ls1 hl1 => kk H locs ls1 hP hS hl1)

theorem V_iinc (X : Cx g p l R s m args meth c cc nL own Ts) (lv1 : List (Nat × Value)) (j : Nat) {i : Nat} {z a : Int} (b : Int) (hab : a + z = b) (hj : lv[j]? = some (i, .int (iN a))) (d : decode cc pc = .ok (.iinc i z, 3)) (hn : i < nL) (hq : (i, Value.int (iN b)) :: lv.filter (fun q => !(q.1 == i) && !(q.1 + 1 == i && q.2.category == 2)) = lv1) (kk : V g p l e R s m args below meth c nL k n Q σ (pc + 3) lv1 (st)) : V g p l e R s m args below meth c nL k n Q σ pc lv (st) := by
  obtain ⟨⟨hx, hb, hml, hown, hts⟩, hwk, hg, hl9, hlk⟩ := X
  intro H locs ls hP hS hl
  exact lv_iinc hx hb d hl hj (hab ▸ iN_add a z) hn hq (fun ls1 hl1 => kk H locs ls1 hP hS hl1)

theorem V_iadd (X : Cx g p l R s m args meth c cc nL own Ts) {a b : Int} (d : decode cc pc = .ok (.iadd, 1)) (kk : V g p l e R s m args below meth c nL k n Q σ (pc + 1) lv (.int (iN (a + b)) :: st)) : V g p l e R s m args below meth c nL k n Q σ pc lv (.int (iN b) :: .int (iN a) :: st) := by
  obtain ⟨⟨hx, hb, hml, hown, hts⟩, hwk, hg, hl9, hlk⟩ := X
  intro H locs ls hP hS hl
  refine lv_iadd hx hb d ?_
  rw [iN_add]
  exact kk H locs ls hP hS hl

theorem V_isub (X : Cx g p l R s m args meth c cc nL own Ts) {a b : Int} (d : decode cc pc = .ok (.isub, 1)) (kk : V g p l e R s m args below meth c nL k n Q σ (pc + 1) lv (.int (iN (a - b)) :: st)) : V g p l e R s m args below meth c nL k n Q σ pc lv (.int (iN b) :: .int (iN a) :: st) := by
  obtain ⟨⟨hx, hb, hml, hown, hts⟩, hwk, hg, hl9, hlk⟩ := X
  intro H locs ls hP hS hl
  refine lv_isub hx hb d ?_
  rw [iN_sub]
  exact kk H locs ls hP hS hl

theorem V_imul (X : Cx g p l R s m args meth c cc nL own Ts) {a b : Int} (d : decode cc pc = .ok (.imul, 1)) (kk : V g p l e R s m args below meth c nL k n Q σ (pc + 1) lv (.int (iN (a * b)) :: st)) : V g p l e R s m args below meth c nL k n Q σ pc lv (.int (iN b) :: .int (iN a) :: st) := by
  obtain ⟨⟨hx, hb, hml, hown, hts⟩, hwk, hg, hl9, hlk⟩ := X
  intro H locs ls hP hS hl
  refine lv_imul hx hb d ?_
  rw [iN_mul]
  exact kk H locs ls hP hS hl

theorem V_idiv (X : Cx g p l R s m args meth c cc nL own Ts) {a b : Int} (ha : 0 ≤ a) (ha2 : a ≤ 2147483647) (hb0 : 0 < b) (hb2 : b ≤ 2147483647) (d : decode cc pc = .ok (.idiv, 1)) (kk : V g p l e R s m args below meth c nL k n Q σ (pc + 1) lv (.int (iN (a / b)) :: st)) : V g p l e R s m args below meth c nL k n Q σ pc lv (.int (iN b) :: .int (iN a) :: st) := by
  obtain ⟨⟨hx, hb, hml, hown, hts⟩, hwk, hg, hl9, hlk⟩ := X
  intro H locs ls hP hS hl
  refine lv_idiv hx hb d (fun h => ?_) ?_
  · rw [← iN_0, iN_eq ⟨by omega, by omega⟩ R32_0] at h
    omega
  · rw [iN_div ha ha2 hb0 hb2]
    exact kk H locs ls hP hS hl

theorem V_ladd (X : Cx g p l R s m args meth c cc nL own Ts) {a b : Int} (d : decode cc pc = .ok (.ladd, 1)) (kk : V g p l e R s m args below meth c nL k n Q σ (pc + 1) lv (.long (lI (a + b)) :: st)) : V g p l e R s m args below meth c nL k n Q σ pc lv (.long (lI b) :: .long (lI a) :: st) := by
  obtain ⟨⟨hx, hb, hml, hown, hts⟩, hwk, hg, hl9, hlk⟩ := X
  intro H locs ls hP hS hl
  refine lv_ladd hx hb d ?_
  rw [lI_add]
  exact kk H locs ls hP hS hl

theorem V_lmul (X : Cx g p l R s m args meth c cc nL own Ts) {a b : Int} (d : decode cc pc = .ok (.lmul, 1)) (kk : V g p l e R s m args below meth c nL k n Q σ (pc + 1) lv (.long (lI (a * b)) :: st)) : V g p l e R s m args below meth c nL k n Q σ pc lv (.long (lI b) :: .long (lI a) :: st) := by
  obtain ⟨⟨hx, hb, hml, hown, hts⟩, hwk, hg, hl9, hlk⟩ := X
  intro H locs ls hP hS hl
  refine lv_lmul hx hb d ?_
  rw [lI_mul]
  exact kk H locs ls hP hS hl

theorem V_i2l (X : Cx g p l R s m args meth c cc nL own Ts) {a : Int} (h : R32 a) (d : decode cc pc = .ok (.i2l, 1)) (kk : V g p l e R s m args below meth c nL k n Q σ (pc + 1) lv (.long (lI a) :: st)) : V g p l e R s m args below meth c nL k n Q σ pc lv (.int (iN a) :: st) := by
  obtain ⟨⟨hx, hb, hml, hown, hts⟩, hwk, hg, hl9, hlk⟩ := X
  intro H locs ls hP hS hl
  exact lv_i2l hx hb d (iN_l h) (kk H locs ls hP hS hl)

theorem V_dup (X : Cx g p l R s m args meth c cc nL own Ts) {v : Value} (hv : v.category = 1) (d : decode cc pc = .ok (.dup, 1)) (kk : V g p l e R s m args below meth c nL k n Q σ (pc + 1) lv (v :: v :: st)) : V g p l e R s m args below meth c nL k n Q σ pc lv (v :: st) := by
  obtain ⟨⟨hx, hb, hml, hown, hts⟩, hwk, hg, hl9, hlk⟩ := X
  intro H locs ls hP hS hl
  exact lv_dup hx hb d hv (kk H locs ls hP hS hl)

theorem V_dup2 (X : Cx g p l R s m args meth c cc nL own Ts) {va vb : Value} (ha : va.category = 1) (hb1 : vb.category = 1) (d : decode cc pc = .ok (.dup2, 1)) (kk : V g p l e R s m args below meth c nL k n Q σ (pc + 1) lv (va :: vb :: va :: vb :: st)) : V g p l e R s m args below meth c nL k n Q σ pc lv (va :: vb :: st) := by
  obtain ⟨⟨hx, hb, hml, hown, hts⟩, hwk, hg, hl9, hlk⟩ := X
  intro H locs ls hP hS hl
  exact lv_dup2_11 hx hb d ha hb1 (kk H locs ls hP hS hl)

theorem V_pop (X : Cx g p l R s m args meth c cc nL own Ts) {v : Value} (hv : v.category = 1) (d : decode cc pc = .ok (.pop, 1)) (kk : V g p l e R s m args below meth c nL k n Q σ (pc + 1) lv (st)) : V g p l e R s m args below meth c nL k n Q σ pc lv (v :: st) := by
  obtain ⟨⟨hx, hb, hml, hown, hts⟩, hwk, hg, hl9, hlk⟩ := X
  intro H locs ls hP hS hl
  exact lv_pop hx hb d hv (kk H locs ls hP hS hl)

theorem V_if_eq (X : Cx g p l R s m args meth c cc nL own Ts) {a : Int} {off : Int} (tgt : Nat) (ha : R32 a) (d : decode cc pc = .ok (.ifCond .eq off, 3)) (ht : (pc : Int) + off = (tgt : Int)) (kt : a = 0 → V g p l e R s m args below meth c nL k n Q σ tgt lv (st)) (kf : ¬ a = 0 → V g p l e R s m args below meth c nL k n Q σ (pc + 3) lv (st)) : V g p l e R s m args below meth c nL k n Q σ pc lv (.int (iN a) :: st) := by
  obtain ⟨⟨hx, hb, hml, hown, hts⟩, hwk, hg, hl9, hlk⟩ := X
  intro H locs ls hP hS hl
  refine lv_if_eq hx hb d ht (fun h => kt ?_ H locs ls hP hS hl) (fun h => kf ?_ H locs ls hP hS hl)
  · rwa [← iN_0, iN_eq ha R32_0] at h
  · rwa [← iN_0, iN_eq ha R32_0] at h

theorem V_icmp_eq (X : Cx g p l R s m args meth c cc nL own Ts) {a b : Int} {off : Int} (tgt : Nat) (ha : R32 a) (hb1 : R32 b) (d : decode cc pc = .ok (.if_icmp .eq off, 3)) (ht : (pc : Int) + off = (tgt : Int)) (kt : a = b → V g p l e R s m args below meth c nL k n Q σ tgt lv (st)) (kf : ¬ a = b → V g p l e R s m args below meth c nL k n Q σ (pc + 3) lv (st)) : V g p l e R s m args below meth c nL k n Q σ pc lv (.int (iN b) :: .int (iN a) :: st) := by
  obtain ⟨⟨hx, hb, hml, hown, hts⟩, hwk, hg, hl9, hlk⟩ := X
  intro H locs ls hP hS hl
  refine lv_icmp_eq hx hb d ht (fun h => kt ?_ H locs ls hP hS hl) (fun h => kf ?_ H locs ls hP hS hl)
  · rwa [iN_eq ha hb1] at h
  · rwa [iN_eq ha hb1] at h

theorem V_if_ne (X : Cx g p l R s m args meth c cc nL own Ts) {a : Int} {off : Int} (tgt : Nat) (ha : R32 a) (d : decode cc pc = .ok (.ifCond .ne off, 3)) (ht : (pc : Int) + off = (tgt : Int)) (kt : ¬ a = 0 → V g p l e R s m args below meth c nL k n Q σ tgt lv (st)) (kf : a = 0 → V g p l e R s m args below meth c nL k n Q σ (pc + 3) lv (st)) : V g p l e R s m args below meth c nL k n Q σ pc lv (.int (iN a) :: st) := by
  obtain ⟨⟨hx, hb, hml, hown, hts⟩, hwk, hg, hl9, hlk⟩ := X
  intro H locs ls hP hS hl
  refine lv_if_ne hx hb d ht (fun h => kt (fun z => h (by rw [z]; exact iN_0)) H locs ls hP hS hl) (fun h => kf ?_ H locs ls hP hS hl)
  first | (rw [← iN_0, iN_eq ha R32_0] at h; exact h) | (rw [← iN_0] at h; simpa [iN_eq ha R32_0] using h)

theorem V_icmp_ne (X : Cx g p l R s m args meth c cc nL own Ts) {a b : Int} {off : Int} (tgt : Nat) (ha : R32 a) (hb1 : R32 b) (d : decode cc pc = .ok (.if_icmp .ne off, 3)) (ht : (pc : Int) + off = (tgt : Int)) (kt : ¬ a = b → V g p l e R s m args below meth c nL k n Q σ tgt lv (st)) (kf : a = b → V g p l e R s m args below meth c nL k n Q σ (pc + 3) lv (st)) : V g p l e R s m args below meth c nL k n Q σ pc lv (.int (iN b) :: .int (iN a) :: st) := by
  obtain ⟨⟨hx, hb, hml, hown, hts⟩, hwk, hg, hl9, hlk⟩ := X
  intro H locs ls hP hS hl
  refine lv_icmp_ne hx hb d ht (fun h => kt (fun z => h (by rw [z])) H locs ls hP hS hl) (fun h => kf ?_ H locs ls hP hS hl)
  first | (rw [iN_eq ha hb1] at h; exact h) | (simpa [iN_eq ha hb1] using h)

theorem V_if_lt (X : Cx g p l R s m args meth c cc nL own Ts) {a : Int} {off : Int} (tgt : Nat) (ha : R32 a) (d : decode cc pc = .ok (.ifCond .lt off, 3)) (ht : (pc : Int) + off = (tgt : Int)) (kt : a < 0 → V g p l e R s m args below meth c nL k n Q σ tgt lv (st)) (kf : ¬ a < 0 → V g p l e R s m args below meth c nL k n Q σ (pc + 3) lv (st)) : V g p l e R s m args below meth c nL k n Q σ pc lv (.int (iN a) :: st) := by
  obtain ⟨⟨hx, hb, hml, hown, hts⟩, hwk, hg, hl9, hlk⟩ := X
  intro H locs ls hP hS hl
  refine lv_if_lt hx hb d ht (fun h => kt ?_ H locs ls hP hS hl) (fun h => kf ?_ H locs ls hP hS hl)
  · rwa [← iN_0, iN_lt ha R32_0] at h
  · rwa [← iN_0, iN_lt ha R32_0] at h

theorem V_icmp_lt (X : Cx g p l R s m args meth c cc nL own Ts) {a b : Int} {off : Int} (tgt : Nat) (ha : R32 a) (hb1 : R32 b) (d : decode cc pc = .ok (.if_icmp .lt off, 3)) (ht : (pc : Int) + off = (tgt : Int)) (kt : a < b → V g p l e R s m args below meth c nL k n Q σ tgt lv (st)) (kf : ¬ a < b → V g p l e R s m args below meth c nL k n Q σ (pc + 3) lv (st)) : V g p l e R s m args below meth c nL k n Q σ pc lv (.int (iN b) :: .int (iN a) :: st) := by
  obtain ⟨⟨hx, hb, hml, hown, hts⟩, hwk, hg, hl9, hlk⟩ := X
  intro H locs ls hP hS hl
  refine lv_icmp_lt hx hb d ht (fun h => kt ?_ H locs ls hP hS hl) (fun h => kf ?_ H locs ls hP hS hl)
  · rwa [iN_lt ha hb1] at h
  · rwa [iN_lt ha hb1] at h

theorem V_if_ge (X : Cx g p l R s m args meth c cc nL own Ts) {a : Int} {off : Int} (tgt : Nat) (ha : R32 a) (d : decode cc pc = .ok (.ifCond .ge off, 3)) (ht : (pc : Int) + off = (tgt : Int)) (kt : 0 ≤ a → V g p l e R s m args below meth c nL k n Q σ tgt lv (st)) (kf : ¬ 0 ≤ a → V g p l e R s m args below meth c nL k n Q σ (pc + 3) lv (st)) : V g p l e R s m args below meth c nL k n Q σ pc lv (.int (iN a) :: st) := by
  obtain ⟨⟨hx, hb, hml, hown, hts⟩, hwk, hg, hl9, hlk⟩ := X
  intro H locs ls hP hS hl
  refine lv_if_ge hx hb d ht (fun h => kt ?_ H locs ls hP hS hl) (fun h => kf ?_ H locs ls hP hS hl)
  · rwa [← iN_0, iN_le R32_0 ha] at h
  · rwa [← iN_0, iN_le R32_0 ha] at h

theorem V_icmp_ge (X : Cx g p l R s m args meth c cc nL own Ts) {a b : Int} {off : Int} (tgt : Nat) (ha : R32 a) (hb1 : R32 b) (d : decode cc pc = .ok (.if_icmp .ge off, 3)) (ht : (pc : Int) + off = (tgt : Int)) (kt : b ≤ a → V g p l e R s m args below meth c nL k n Q σ tgt lv (st)) (kf : ¬ b ≤ a → V g p l e R s m args below meth c nL k n Q σ (pc + 3) lv (st)) : V g p l e R s m args below meth c nL k n Q σ pc lv (.int (iN b) :: .int (iN a) :: st) := by
  obtain ⟨⟨hx, hb, hml, hown, hts⟩, hwk, hg, hl9, hlk⟩ := X
  intro H locs ls hP hS hl
  refine lv_icmp_ge hx hb d ht (fun h => kt ?_ H locs ls hP hS hl) (fun h => kf ?_ H locs ls hP hS hl)
  · rwa [iN_le hb1 ha] at h
  · rwa [iN_le hb1 ha] at h

theorem V_if_gt (X : Cx g p l R s m args meth c cc nL own Ts) {a : Int} {off : Int} (tgt : Nat) (ha : R32 a) (d : decode cc pc = .ok (.ifCond .gt off, 3)) (ht : (pc : Int) + off = (tgt : Int)) (kt : 0 < a → V g p l e R s m args below meth c nL k n Q σ tgt lv (st)) (kf : ¬ 0 < a → V g p l e R s m args below meth c nL k n Q σ (pc + 3) lv (st)) : V g p l e R s m args below meth c nL k n Q σ pc lv (.int (iN a) :: st) := by
  obtain ⟨⟨hx, hb, hml, hown, hts⟩, hwk, hg, hl9, hlk⟩ := X
  intro H locs ls hP hS hl
  refine lv_if_gt hx hb d ht (fun h => kt ?_ H locs ls hP hS hl) (fun h => kf ?_ H locs ls hP hS hl)
  · rwa [← iN_0, iN_lt R32_0 ha] at h
  · rwa [← iN_0, iN_lt R32_0 ha] at h

theorem V_icmp_gt (X : Cx g p l R s m args meth c cc nL own Ts) {a b : Int} {off : Int} (tgt : Nat) (ha : R32 a) (hb1 : R32 b) (d : decode cc pc = .ok (.if_icmp .gt off, 3)) (ht : (pc : Int) + off = (tgt : Int)) (kt : b < a → V g p l e R s m args below meth c nL k n Q σ tgt lv (st)) (kf : ¬ b < a → V g p l e R s m args below meth c nL k n Q σ (pc + 3) lv (st)) : V g p l e R s m args below meth c nL k n Q σ pc lv (.int (iN b) :: .int (iN a) :: st) := by
  obtain ⟨⟨hx, hb, hml, hown, hts⟩, hwk, hg, hl9, hlk⟩ := X
  intro H locs ls hP hS hl
  refine lv_icmp_gt hx hb d ht (fun h => kt ?_ H locs ls hP hS hl) (fun h => kf ?_ H locs ls hP hS hl)
  · rwa [iN_lt hb1 ha] at h
  · rwa [iN_lt hb1 ha] at h

theorem V_if_le (X : Cx g p l R s m args meth c cc nL own Ts) {a : Int} {off : Int} (tgt : Nat) (ha : R32 a) (d : decode cc pc = .ok (.ifCond .le off, 3)) (ht : (pc : Int) + off = (tgt : Int)) (kt : a ≤ 0 → V g p l e R s m args below meth c nL k n Q σ tgt lv (st)) (kf : ¬ a ≤ 0 → V g p l e R s m args below meth c nL k n Q σ (pc + 3) lv (st)) : V g p l e R s m args below meth c nL k n Q σ pc lv (.int (iN a) :: st) := by
  obtain ⟨⟨hx, hb, hml, hown, hts⟩, hwk, hg, hl9, hlk⟩ := X
  intro H locs ls hP hS hl
  refine lv_if_le hx hb d ht (fun h => kt ?_ H locs ls hP hS hl) (fun h => kf ?_ H locs ls hP hS hl)
  · rwa [← iN_0, iN_le ha R32_0] at h
  · rwa [← iN_0, iN_le ha R32_0] at h

theorem V_icmp_le (X : Cx g p l R s m args meth c cc nL own Ts) {a b : Int} {off : Int} (tgt : Nat) (ha : R32 a) (hb1 : R32 b) (d : decode cc pc = .ok (.if_icmp .le off, 3)) (ht : (pc : Int) + off = (tgt : Int)) (kt : a ≤ b → V g p l e R s m args below meth c nL k n Q σ tgt lv (st)) (kf : ¬ a ≤ b → V g p l e R s m args below meth c nL k n Q σ (pc + 3) lv (st)) : V g p l e R s m args below meth c nL k n Q σ pc lv (.int (iN b) :: .int (iN a) :: st) := by
  obtain ⟨⟨hx, hb, hml, hown, hts⟩, hwk, hg, hl9, hlk⟩ := X
  intro H locs ls hP hS hl
  refine lv_icmp_le hx hb d ht (fun h => kt ?_ H locs ls hP hS hl) (fun h => kf ?_ H locs ls hP hS hl)
  · rwa [iN_le ha hb1] at h
  · rwa [iN_le ha hb1] at h

theorem V_goto (X : Cx g p l R s m args meth c cc nL own Ts) {off : Int} (tgt : Nat) (d : decode cc pc = .ok (.goto off, 3)) (ht : (pc : Int) + off = (tgt : Int)) (kk : V g p l e R s m args below meth c nL k n Q σ tgt lv (st)) : V g p l e R s m args below meth c nL k n Q σ pc lv (st) := by
  obtain ⟨⟨hx, hb, hml, hown, hts⟩, hwk, hg, hl9, hlk⟩ := X
  intro H locs ls hP hS hl
  exact lv_goto hx hb d ht (kk H locs ls hP hS hl)

theorem V_get (X : Cx g p l R s m args meth c cc nL own Ts) {ci idx N : Nat} {C ref : String} {T : u_T} (a : Nat) (ha : a < 112) (hkd : kd a = ci) (h8 : ci < 8) (hc : vwCl[ci]? = some (C, T, N)) (hin : ∀ w ∈ u_ws C T N, w ∈ Ts) (j : Nat) (hj : j < N) (hlk0 : Cond.fieldLink own idx ref (T j).2.1 (T j).2.2.1 ∈ Ts) (href : ref = (T j).1) {v : Value} (hv : (flds g (σ.1 a) ci a)[j]? = some v) (d : decode cc pc = .ok (.getfield idx, 3)) (kk : V g p l e R s m args below meth c nL k n Q σ (pc + 3) lv (v :: st)) : V g p l e R s m args below meth c nL k n Q σ pc lv (.ref (ga g a) :: st) := by
  obtain ⟨⟨hx, hb, hml, hown, hts⟩, hwk, hg, hl9, hlk⟩ := X
  intro H locs ls hP hS hl
  have he : (cells g σ)[a]? = some (ga g a, .inr (ci, flds g (σ.1 a) ci a)) := by rw [cells_at ha, cL_obj hkd h8]
  exact va_get hx hb hts hin hown hwk.1 hP a he hc j hj (hts _ hlk0) (fun x hx1 => by rw [href]; exact hx1) hv d (kk H locs ls hP hS hl)

theorem V_put (X : Cx g p l R s m args meth c cc nL own Ts) {ci idx N : Nat} {C ref : String} {T : u_T} (a : Nat) (ha : a < 112) (hkd : kd a = ci) (h8 : ci < 8) (hc : vwCl[ci]? = some (C, T, N)) (hin : ∀ w ∈ u_ws C T N, w ∈ Ts) (j : Nat) (hj : j < N) (hlk0 : Cond.fieldLink own idx ref (T j).2.1 (T j).2.2.1 ∈ Ts) (href : ref = (T j).1) {z : Int} {ty : FieldType} (ty0 : Nat → FieldType) (hty : ∀ k, k < N → parseFieldDescriptor (T k).2.2.1 = some (ty0 k)) (hnm : ∀ a, a < N → ∀ b, b < N → a ≠ b → (T a).2.1 ≠ (T b).2.1) (hfin : (T j).2.2.2 = false) (hd : parseFieldDescriptor (T j).2.2.1 = some ty) (hn : narrow ty (.int (iN z)) = .int (iN z)) (hfit : fits ty (.int (iN z)) = true) (hset : (flds g (σ.1 a) ci a).set j (.int (iN z)) = flds g (ur (σ.1 a) j z) ci a) (hlen : j < (flds g (σ.1 a) ci a).length) (d : decode cc pc = .ok (.putfield idx, 3)) (kk : V g p l e R s m args below meth c nL k n Q (sw σ a j z) (pc + 3) lv (st)) : V g p l e R s m args below meth c nL k n Q σ pc lv (.int (iN z) :: .ref (ga g a) :: st) := by
  obtain ⟨⟨hx, hb, hml, hown, hts⟩, hwk, hg, hl9, hlk⟩ := X
  intro H locs ls hP hS hl
  have he : (cells g σ)[a]? = some (ga g a, .inr (ci, flds g (σ.1 a) ci a)) := by rw [cells_at ha, cL_obj hkd h8]
  refine va_put hx hb hts hin ty0 hty hnm hown hwk.1 hP (hg.D σ) hS a he hc j hj (hts _ hlk0) (fun x hx1 => by rw [href]; exact hx1) hfin hd hn hfit hlen d (fun H1 locs1 hP1 _ hS1 => kk H1 locs1 ls ?_ hS1 hl)
  rw [hset, cells_set ha (cL_obj hkd h8)] at hP1
  exact hP1

theorem V_iald (X : Cx g p l R s m args meth c cc nL own Ts) {N : Nat} {i : Int} (a : Nat) (ha : a < 112) (hkd : kd a = 9) (hN : ln a = N) (hN2 : N ≤ 2147483647) (j : Nat) (hij : i = (j : Int)) (hj : j < N) (d : decode cc pc = .ok (.iaload, 1)) (kk : V g p l e R s m args below meth c nL k n Q σ (pc + 1) lv (.int (iN (σ.1 a j)) :: st)) : V g p l e R s m args below meth c nL k n Q σ pc lv (.int (iN i) :: .ref (ga g a) :: st) := by
  obtain ⟨⟨hx, hb, hml, hown, hts⟩, hwk, hg, hl9, hlk⟩ := X
  intro H locs ls hP hS hl
  have he : (cells g σ)[a]? = some (ga g a, .inl (gc g 9, N, .inl (fun k => iN (σ.1 a k)))) := by rw [cells_at ha, cL_arr hkd (by decide) (by decide) hN]
  refine va_iald hx hb hwk.1 hP a 1 he rfl (iN_in (by omega) (by omega) hN2) d ?_
  rw [iN_clamp ⟨by omega, by omega⟩, show i.toNat = j by omega]
  exact kk H locs ls hP hS hl

theorem V_cald (X : Cx g p l R s m args meth c cc nL own Ts) {N : Nat} {i : Int} (a : Nat) (ha : a < 112) (hkd : kd a = 8) (hN : ln a = N) (hN2 : N ≤ 2147483647) (j : Nat) (hij : i = (j : Int)) (hj : j < N) (d : decode cc pc = .ok (.caload, 1)) (kk : V g p l e R s m args below meth c nL k n Q σ (pc + 1) lv (.int (iN (σ.1 a j)) :: st)) : V g p l e R s m args below meth c nL k n Q σ pc lv (.int (iN i) :: .ref (ga g a) :: st) := by
  obtain ⟨⟨hx, hb, hml, hown, hts⟩, hwk, hg, hl9, hlk⟩ := X
  intro H locs ls hP hS hl
  have he : (cells g σ)[a]? = some (ga g a, .inl (gc g 8, N, .inl (fun k => iN (σ.1 a k)))) := by rw [cells_at ha, cL_arr hkd (by decide) (by decide) hN]
  refine va_cald hx hb hwk.1 hP a 0 he rfl (iN_in (by omega) (by omega) hN2) d ?_
  rw [iN_clamp ⟨by omega, by omega⟩, show i.toNat = j by omega]
  exact kk H locs ls hP hS hl

theorem V_zald (X : Cx g p l R s m args meth c cc nL own Ts) {N : Nat} {i : Int} (a : Nat) (ha : a < 112) (hkd : kd a = 10) (hN : ln a = N) (hN2 : N ≤ 2147483647) (j : Nat) (hij : i = (j : Int)) (hj : j < N) (d : decode cc pc = .ok (.baload, 1)) (kk : V g p l e R s m args below meth c nL k n Q σ (pc + 1) lv (.int (iN (σ.1 a j)) :: st)) : V g p l e R s m args below meth c nL k n Q σ pc lv (.int (iN i) :: .ref (ga g a) :: st) := by
  obtain ⟨⟨hx, hb, hml, hown, hts⟩, hwk, hg, hl9, hlk⟩ := X
  intro H locs ls hP hS hl
  have he : (cells g σ)[a]? = some (ga g a, .inl (gc g 10, N, .inl (fun k => iN (σ.1 a k)))) := by rw [cells_at ha, cL_arr hkd (by decide) (by decide) hN]
  refine va_zald hx hb hwk.1 hP a 2 he rfl (iN_in (by omega) (by omega) hN2) d ?_
  rw [iN_clamp ⟨by omega, by omega⟩, show i.toNat = j by omega]
  exact kk H locs ls hP hS hl

theorem V_iast (X : Cx g p l R s m args meth c cc nL own Ts) {N : Nat} {i z : Int} (a : Nat) (ha : a < 112) (hkd : kd a = 9) (hN : ln a = N) (hN2 : N ≤ 2147483647) (j : Nat) (hij : i = (j : Int)) (hj : j < N) (d : decode cc pc = .ok (.iastore, 1)) (kk : V g p l e R s m args below meth c nL k n Q (sw σ a j z) (pc + 1) lv (st)) : V g p l e R s m args below meth c nL k n Q σ pc lv (.int (iN z) :: .int (iN i) :: .ref (ga g a) :: st) := by
  obtain ⟨⟨hx, hb, hml, hown, hts⟩, hwk, hg, hl9, hlk⟩ := X
  intro H locs ls hP hS hl
  have he : (cells g σ)[a]? = some (ga g a, .inl (gc g 9, N, .inl (fun k => iN (σ.1 a k)))) := by rw [cells_at ha, cL_arr hkd (by decide) (by decide) hN]
  refine va_iast hx hb hwk.1 hP (hg.D σ) hS a 1 he rfl (iN_in (by omega) (by omega) hN2) d (fun H1 locs1 hP1 _ hS1 => kk H1 locs1 ls ?_ hS1 hl)
  rw [iN_clamp ⟨by omega, by omega⟩, show i.toNat = j by omega] at hP1
  have e8 : upd (fun k => iN (σ.1 a k)) j (iN z) = fun k => iN (ur (σ.1 a) j z k) := by
    funext q
    by_cases hq : q = j <;> simp [upd, ur, hq]
  rw [e8, cells_set ha (cL_arr hkd (by decide) (by decide) hN)] at hP1
  exact hP1

theorem V_cast (X : Cx g p l R s m args meth c cc nL own Ts) {N : Nat} {i z : Int} (a : Nat) (ha : a < 112) (hkd : kd a = 8) (hN : ln a = N) (hN2 : N ≤ 2147483647) (j : Nat) (hij : i = (j : Int)) (hj : j < N) (hv0 : 0 ≤ z) (hv1 : z < 65536) (d : decode cc pc = .ok (.castore, 1)) (kk : V g p l e R s m args below meth c nL k n Q (sw σ a j z) (pc + 1) lv (st)) : V g p l e R s m args below meth c nL k n Q σ pc lv (.int (iN z) :: .int (iN i) :: .ref (ga g a) :: st) := by
  obtain ⟨⟨hx, hb, hml, hown, hts⟩, hwk, hg, hl9, hlk⟩ := X
  intro H locs ls hP hS hl
  have he : (cells g σ)[a]? = some (ga g a, .inl (gc g 8, N, .inl (fun k => iN (σ.1 a k)))) := by rw [cells_at ha, cL_arr hkd (by decide) (by decide) hN]
  refine va_cast hx hb hwk.1 hP (hg.D σ) hS a 0 he rfl (iN_in (by omega) (by omega) hN2) d (fun H1 locs1 hP1 _ hS1 => kk H1 locs1 ls ?_ hS1 hl)
  rw [iN_clamp ⟨by omega, by omega⟩, show i.toNat = j by omega] at hP1
  have e9 : vp_nar .char (iN z) = iN z := by unfold vp_nar; rw [(iN_char hv0 hv1).1]
  rw [e9] at hP1
  have e8 : upd (fun k => iN (σ.1 a k)) j (iN z) = fun k => iN (ur (σ.1 a) j z k) := by
    funext q
    by_cases hq : q = j <;> simp [upd, ur, hq]
  rw [e8, cells_set ha (cL_arr hkd (by decide) (by decide) hN)] at hP1
  exact hP1

theorem V_zast (X : Cx g p l R s m args meth c cc nL own Ts) {N : Nat} {i z : Int} (a : Nat) (ha : a < 112) (hkd : kd a = 10) (hN : ln a = N) (hN2 : N ≤ 2147483647) (j : Nat) (hij : i = (j : Int)) (hj : j < N) (hv0 : z = 0 ∨ z = 1) (d : decode cc pc = .ok (.bastore, 1)) (kk : V g p l e R s m args below meth c nL k n Q (sw σ a j z) (pc + 1) lv (st)) : V g p l e R s m args below meth c nL k n Q σ pc lv (.int (iN z) :: .int (iN i) :: .ref (ga g a) :: st) := by
  obtain ⟨⟨hx, hb, hml, hown, hts⟩, hwk, hg, hl9, hlk⟩ := X
  intro H locs ls hP hS hl
  have he : (cells g σ)[a]? = some (ga g a, .inl (gc g 10, N, .inl (fun k => iN (σ.1 a k)))) := by rw [cells_at ha, cL_arr hkd (by decide) (by decide) hN]
  refine va_zast hx hb hwk.1 hP (hg.D σ) hS a 2 he rfl (iN_in (by omega) (by omega) hN2) d (fun H1 locs1 hP1 _ hS1 => kk H1 locs1 ls ?_ hS1 hl)
  rw [iN_clamp ⟨by omega, by omega⟩, show i.toNat = j by omega] at hP1
  have e9 : vp_nar .boolean (iN z) = iN z := by unfold vp_nar; rw [(iN_bool hv0).1]
  rw [e9] at hP1
  have e8 : upd (fun k => iN (σ.1 a k)) j (iN z) = fun k => iN (ur (σ.1 a) j z k) := by
    funext q
    by_cases hq : q = j <;> simp [upd, ur, hq]
  rw [e8, cells_set ha (cL_arr hkd (by decide) (by decide) hN)] at hP1
  exact hP1

theorem V_aald14 (X : Cx g p l R s m args meth c cc nL own Ts) {i : Int} (a : Nat) (ha : a < 112) (hkd : kd a = 14) (j : Nat) (hij : i = (j : Int)) (hj : j < 4) (d : decode cc pc = .ok (.aaload, 1)) (kk : V g p l e R s m args below meth c nL k n Q σ (pc + 1) lv (.ref (ga g (73 + 3 * j)) :: st)) : V g p l e R s m args below meth c nL k n Q σ pc lv (.int (iN i) :: .ref (ga g a) :: st) := by
  obtain ⟨⟨hx, hb, hml, hown, hts⟩, hwk, hg, hl9, hlk⟩ := X
  intro H locs ls hP hS hl
  have he := cells_at (g := g) (σ := σ) ha
  rw [cL_14 hkd] at he
  refine va_aldq hx hb hwk.1 hP a 5 he rfl (iN_in (by omega) (by omega) (by decide)) d ?_
  rw [iN_clamp ⟨by omega, by omega⟩, show i.toNat = j by omega]
  exact kk H locs ls hP hS hl

theorem V_aald15 (X : Cx g p l R s m args meth c cc nL own Ts) {i : Int} (a : Nat) (ha : a < 112) (hkd : kd a = 15) (j : Nat) (hij : i = (j : Int)) (hj : j < 4) (d : decode cc pc = .ok (.aaload, 1)) (kk : V g p l e R s m args below meth c nL k n Q σ (pc + 1) lv (.ref (ga g (85 + j)) :: st)) : V g p l e R s m args below meth c nL k n Q σ pc lv (.int (iN i) :: .ref (ga g a) :: st) := by
  obtain ⟨⟨hx, hb, hml, hown, hts⟩, hwk, hg, hl9, hlk⟩ := X
  intro H locs ls hP hS hl
  have he := cells_at (g := g) (σ := σ) ha
  rw [cL_15 hkd] at he
  refine va_aldq hx hb hwk.1 hP a 6 he rfl (iN_in (by omega) (by omega) (by decide)) d ?_
  rw [iN_clamp ⟨by omega, by omega⟩, show i.toNat = j by omega]
  exact kk H locs ls hP hS hl

theorem V_aald16 (X : Cx g p l R s m args meth c cc nL own Ts) {i : Int} (a : Nat) (ha : a < 112) (hkd : kd a = 16) (j : Nat) (hij : i = (j : Int)) (hj : j < 30) (d : decode cc pc = .ok (.aaload, 1)) (kk : V g p l e R s m args below meth c nL k n Q σ (pc + 1) lv (.ref (ga g (7 + 2 * j)) :: st)) : V g p l e R s m args below meth c nL k n Q σ pc lv (.int (iN i) :: .ref (ga g a) :: st) := by
  obtain ⟨⟨hx, hb, hml, hown, hts⟩, hwk, hg, hl9, hlk⟩ := X
  intro H locs ls hP hS hl
  have he := cells_at (g := g) (σ := σ) ha
  rw [cL_16 hkd] at he
  refine va_aldq hx hb hwk.1 hP a 7 he rfl (iN_in (by omega) (by omega) (by decide)) d ?_
  rw [iN_clamp ⟨by omega, by omega⟩, show i.toNat = j by omega]
  exact kk H locs ls hP hS hl

theorem V_alen (X : Cx g p l R s m args meth c cc nL own Ts) {N ti ci : Nat} {ty : FieldType} (a : Nat) (ha : a < 112) (hkd : kd a = ci) (h8 : ¬ ci < 8) (h11 : ci < 11) (hN : ln a = N) (ht : (tys g)[ti]? = some (gc g ci, ty)) (d : decode cc pc = .ok (.arraylength, 1)) (kk : V g p l e R s m args below meth c nL k n Q σ (pc + 1) lv (.int (iN (N : Int)) :: st)) : V g p l e R s m args below meth c nL k n Q σ pc lv (.ref (ga g a) :: st) := by
  obtain ⟨⟨hx, hb, hml, hown, hts⟩, hwk, hg, hl9, hlk⟩ := X
  intro H locs ls hP hS hl
  have he : (cells g σ)[a]? = some (ga g a, .inl (gc g ci, N, .inl (fun k => iN (σ.1 a k)))) := by rw [cells_at ha, cL_arr hkd h8 h11 hN]
  exact va_alen hx hb hwk.1 hP a ti he ht (v := iN (N : Int)) (Int32.ofInt_eq_ofNat).symm d (kk H locs ls hP hS hl)

theorem rd_s {σ : St} {n k : Nat} {v : Int} : (sw σ n k v).1 n k = v := sw_same σ n k v
theorem rd_n {σ : St} {n k a b : Nat} {v : Int} (h : a ≠ n) : (sw σ n k v).1 a b = σ.1 a b := by rw [sw_ne h]
theorem rd_k {σ : St} {n k a b : Nat} {v : Int} (h : b ≠ k) : (sw σ n k v).1 a b = σ.1 a b := by rw [sw_get, if_neg (fun q => h q.2)]

theorem V_mmin (X : Cx g p l R s m args meth c cc nL own Ts) {idx : Nat} {a b : Int} (h1 : Cond.methodLink own idx Lib.Math.min.name ∈ Ts) (h2 : Cond.static Lib.Math.min.name ∈ Ts) (h3 : Cond.initialized "java/lang/Math" ∈ Ts) (h4 : Cond.code Lib.Math.min.name Lib.Math.min.code 2 (some .int) ∈ Ts) (hRf : 1 ≤ R.frames) (hRl : (st.map fun v => v.category).sum + 13 ≤ R.locals) (hRc : k ≤ R.cells) (hRs : n ≤ R.slots) (ha : R32 a) (hb1 : R32 b) (d : decode cc pc = .ok (.invokestatic idx, 3)) (kk : V g p l e R s m args below meth c nL k n Q σ (pc + 3) lv (.int (iN (if b < a then b else a)) :: st)) : V g p l e R s m args below meth c nL k n Q σ pc lv (.int (iN b) :: .int (iN a) :: st) := by
  obtain ⟨⟨hx, hb, hml, hown, hts⟩, hwk, hg, hl9, hlk⟩ := X
  intro H locs ls hP hS hl
  refine va_mmin hx hb (hml.trans hl.1.symm) hown (hts _ h1) (hts _ h2) (hts _ h3) (hts _ h4) hRf hRl hRc hRs d ?_
  have e9 : (if iN b < iN a then iN b else iN a) = iN (if b < a then b else a) := by
    simp only [iN_lt hb1 ha]
    split <;> rfl
  rw [e9]
  exact kk H locs ls hP hS hl

theorem V_mmax (X : Cx g p l R s m args meth c cc nL own Ts) {idx : Nat} {a b : Int} (h1 : Cond.methodLink own idx Lib.Math.max.name ∈ Ts) (h2 : Cond.static Lib.Math.max.name ∈ Ts) (h3 : Cond.initialized "java/lang/Math" ∈ Ts) (h4 : Cond.code Lib.Math.max.name Lib.Math.max.code 2 (some .int) ∈ Ts) (hRf : 1 ≤ R.frames) (hRl : (st.map fun v => v.category).sum + 13 ≤ R.locals) (hRc : k ≤ R.cells) (hRs : n ≤ R.slots) (ha : R32 a) (hb1 : R32 b) (d : decode cc pc = .ok (.invokestatic idx, 3)) (kk : V g p l e R s m args below meth c nL k n Q σ (pc + 3) lv (.int (iN (if a < b then b else a)) :: st)) : V g p l e R s m args below meth c nL k n Q σ pc lv (.int (iN b) :: .int (iN a) :: st) := by
  obtain ⟨⟨hx, hb, hml, hown, hts⟩, hwk, hg, hl9, hlk⟩ := X
  intro H locs ls hP hS hl
  refine va_mmax hx hb (hml.trans hl.1.symm) hown (hts _ h1) (hts _ h2) (hts _ h3) (hts _ h4) hRf hRl hRc hRs d ?_
  have e9 : (if iN a < iN b then iN b else iN a) = iN (if a < b then b else a) := by
    simp only [iN_lt ha hb1]
    split <;> rfl
  rw [e9]
  exact kk H locs ls hP hS hl

theorem V_top {a b : Int} (h : a = b) (kk : V g p l e R s m args below meth c nL k n Q σ pc lv (.int (iN b) :: st)) : V g p l e R s m args below meth c nL k n Q σ pc lv (.int (iN a) :: st) := h ▸ kk

theorem V_getsP (X : Cx g p l R s m args meth c cc nL own Ts) (hown2 : own = "Ghostracer$Season") (d : decode cc pc = .ok (.getstatic 78, 3)) (kk : V g p l e R s m args below meth c nL k n Q σ (pc + 3) lv (.ref (gp g) :: st)) : V g p l e R s m args below meth c nL k n Q σ pc lv (st) := by
  obtain ⟨⟨hx, hb, hml, hown, hts⟩, hwk, hg, hl9, hlk⟩ := X
  intro H locs ls hP hS hl
  subst hown2
  exact va_getsN hx hb hwk.2.2.1.1 hS hown (va_Nw.use rfl hwk.2.2.2.2.2.2.2) (fun _ h => h) d (kk H locs ls hP hS hl)

theorem V_lenP (X : Cx g p l R s m args meth c cc nL own Ts) (d : decode cc pc = .ok (.arraylength, 1)) (kk : V g p l e R s m args below meth c nL k n Q σ (pc + 1) lv (.int (iN 6) :: st)) : V g p l e R s m args below meth c nL k n Q σ pc lv (.ref (gp g) :: st) := by
  obtain ⟨⟨hx, hb, hml, hown, hts⟩, hwk, hg, hl9, hlk⟩ := X
  intro H locs ls hP hS hl
  exact va_tlen hx hb hwk.2.2.1.2.1 hS (v := iN 6) (by decide) d (kk H locs ls hP hS hl)

theorem V_ldP (X : Cx g p l R s m args meth c cc nL own Ts) {i : Int} (j : Nat) (hij : i = (j : Int)) (hj : j < 6) (d : decode cc pc = .ok (.iaload, 1)) (kk : V g p l e R s m args below meth c nL k n Q σ (pc + 1) lv (.int (iN (worthP j)) :: st)) : V g p l e R s m args below meth c nL k n Q σ pc lv (.int (iN i) :: .ref (gp g) :: st) := by
  obtain ⟨⟨hx, hb, hml, hown, hts⟩, hwk, hg, hl9, hlk⟩ := X
  intro H locs ls hP hS hl
  refine va_ti hx hb hwk.2.2.1.2.1 hS (iN_in (by omega) (by omega) (by decide)) (v := .int (iN (worthP j))) ?_ d (kk H locs ls hP hS hl)
  rw [iN_clamp ⟨by omega, by omega⟩, show i.toNat = j by omega]

theorem V_topl {a b : Int} (h : a = b) (kk : V g p l e R s m args below meth c nL k n Q σ pc lv (.long (lI b) :: st)) : V g p l e R s m args below meth c nL k n Q σ pc lv (.long (lI a) :: st) := h ▸ kk

end VR
