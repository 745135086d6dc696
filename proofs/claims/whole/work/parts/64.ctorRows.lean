/-! ===== constructors: the cells are made one behind another; cell n is at gh g + n ===== -/
def PC (g : Geo) (kc : Nat) (E : Nat → va_E) : va_W := (List.range kc).map (fun n => (ga g n, E n))
theorem PC_at {g : Geo} {kc n : Nat} {E : Nat → va_E} (h : n < kc) : (PC g kc E)[n]? = some (ga g n, E n) := by simp [PC, h]
theorem PC_len {g : Geo} {kc : Nat} {E : Nat → va_E} : (PC g kc E).length = kc := by simp [PC]
def ue (E : Nat → va_E) (i : Nat) (x : va_E) : Nat → va_E := fun n => if n = i then x else E n
theorem ue_s {E : Nat → va_E} {i : Nat} {x : va_E} : ue E i x i = x := by simp [ue]
theorem ue_n {E : Nat → va_E} {i j : Nat} {x : va_E} (h : j ≠ i) : ue E i x j = E j := by simp [ue, h]
theorem PC_congr {g : Geo} {kc : Nat} {E E' : Nat → va_E} (h : ∀ n, n < kc → E n = E' n) : PC g kc E = PC g kc E' := by
  unfold PC
  exact List.map_congr_left (fun n hn => by rw [h n (List.mem_range.mp hn)])
theorem PC_set {g : Geo} {kc i : Nat} {E : Nat → va_E} {x : va_E} (h : i < kc) : (PC g kc E).set i (ga g i, x) = PC g kc (ue E i x) := by
  apply List.ext_getElem?
  intro j
  by_cases hj : j = i
  · subst hj
    rw [List.getElem?_set_self (by rw [PC_len]; exact h), PC_at h, ue_s]
  · rw [List.getElem?_set_ne (Ne.symm hj)]
    by_cases hl : j < kc
    · rw [PC_at hl, PC_at hl, ue_n hj]
    · rw [List.getElem?_eq_none (by rw [PC_len]; omega), List.getElem?_eq_none (by rw [PC_len]; omega)]
theorem PC_push {g : Geo} {kc : Nat} {E : Nat → va_E} {x : va_E} : PC g kc E ++ [(ga g kc, x)] = PC g (kc + 1) (ue E kc x) := by
  rw [PC_congr (E' := ue E kc x) (fun n hn => (ue_n (Nat.ne_of_lt hn)).symm)]
  unfold PC
  rw [List.range_succ, List.map_append]
  simp [ue]
def GN (g : Geo) : Prop := ∀ n, ga g n = gh g + n
theorem GN.ok {g : Geo} (h : GN g) : GOK g := ⟨fun a b _ _ e => by rw [h a, h b] at e; omega, fun a _ => by rw [h a]; omega⟩
theorem GN.D {g : Geo} (h : GN g) {kc : Nat} {E : Nat → va_E} : va_D (gA g) (PC g kc E) := by
  have key : ∀ (k : Nat) (q : Nat × va_E), (PC g kc E)[k]? = some q → q.1 = ga g k := by
    intro k q hk
    have hl : k < kc := by
      have := (List.getElem?_eq_some_iff.mp hk).1
      rwa [PC_len] at this
    rw [PC_at hl] at hk
    cases hk
    rfl
  refine ⟨fun i j p q hi hj hpq => ?_, fun k q hk => ?_⟩
  · rw [key i p hi, key j q hj, h i, h j] at hpq
    omega
  · rw [key k q hk, h k]
    exact Nat.le_add_right _ _
/-- nest mates' constructors, rows of objects -/
def WN (U : State) : Prop := (va_Nw (.methodLinkNest "Ghostracer" 27 yX3_init "Ghostracer") U ∧ va_Nw (.methodLinkNest "Ghostracer" 41 yX4_init "Ghostracer") U ∧ va_Nw (.methodLinkNest "Ghostracer" 46 yX5_init "Ghostracer") U ∧ va_Nw (.methodLinkNest "Ghostracer" 47 yX1_init "Ghostracer") U ∧ va_Nw (.methodLinkNest "Ghostracer$Book" 17 yX2_init "Ghostracer") U) ∧ va_AO "Ghostracer$Track" U ∧ va_AO "Ghostracer$Car" U ∧ va_AO "Ghostracer$Lap" U
theorem WN.warm {s U : State} (hW : s.WarmedH U.vm) (h : WN s) : WN U := by
  obtain ⟨⟨a1, a2, a3, a4, a5⟩, b1, b2, b3⟩ := h
  exact ⟨⟨va_Nw.warmM hW a1, va_Nw.warmM hW a2, va_Nw.warmM hW a3, va_Nw.warmM hW a4, va_Nw.warmM hW a5⟩, va_AO.moved hW.alike b1, va_AO.moved hW.alike b2, va_AO.moved hW.alike b3⟩
theorem WN.same {s U : State} (hv : s.vm = U.vm) (h : WN s) : WN U := by
  obtain ⟨⟨a1, a2, a3, a4, a5⟩, b1, b2, b3⟩ := h
  have hA : s.vm.Alike U.vm := by rw [hv]; exact Vm.Alike.refl _
  exact ⟨⟨va_Nw.same rfl hv a1, va_Nw.same rfl hv a2, va_Nw.same rfl hv a3, va_Nw.same rfl hv a4, va_Nw.same rfl hv a5⟩, va_AO.moved hA b1, va_AO.moved hA b2, va_AO.moved hA b3⟩
def PWorld (g : Geo) (kc : Nat) (E : Nat → va_E) : State → Prop := fun U => (va_P (gD g) vwCl (PC g kc E) U.heap ∧ U.heap.size = gh g + kc) ∧ WK g U ∧ GN g ∧ WN U
def QP (g : Geo) (kc : Nat) (E : Nat → va_E) : Array Value → State → Outcome → State → Prop := va_Qv (S := Unit) (fun _ => True) (fun _ t => va_P (gD g) vwCl (PC g kc E) t.heap ∧ t.heap.size = gh g + kc) (gA g)
theorem PWorld.blind {g : Geo} {kc : Nat} {E : Nat → va_E} {av : List Value} : FrameBlind (va_Pc av (PWorld g kc E)) := by
  intro a U gf mk h
  obtain ⟨h1, h2, ⟨h3, h4, h5, h6, h8⟩, h7, h9⟩ := h
  exact ⟨h1, h2, ⟨va_K.moved (u := U) (U := U.calling gf mk a) (Vm.Alike.refl U.vm) h3, h4, Sta.kept (u := U) (U := U.calling gf mk a) (Vm.Alike.refl U.vm) (fun _ _ _ => rfl) h5, fun q hq => by
    obtain ⟨b, hb⟩ := h6 q hq
    exact ⟨b, vk_R.same (u := U) rfl hb⟩, Wx.same (s := U) rfl h8⟩, h7, WN.same (s := U) rfl h9⟩
theorem WK.call {g : Geo} {s U : State} {H : Heap} {locs : List Loc} (hk : WK g s) (hS : va_S (gA g) s.heap H locs) (hU : U.heap = H) (hW : s.WarmedH U.vm) : WK g U := by
  obtain ⟨h3, h4, h5, h6, h8⟩ := hk
  subst hU
  refine ⟨va_K.moved hW.alike h3, Nat.le_trans h4 hS.1, Sta.kept hW.alike (fun a h1 h2 => hS.2.1 a h1 h2) h5, fun q hq => ?_, Wx.warm hW h8⟩
  obtain ⟨b, hb⟩ := h6 q hq
  exact ⟨b, vk_R.warm hW hb⟩
def VP (g : Geo) (p : Program) (l : Launch) (e : Env) (R : Room) (s : State) (m : MethodId) (args : Array Value) (below : List Frame) (meth : Method) (c : Code) (nL : Nat) (k n : Nat) (Q : State → Prop) (kc : Nat) (E : Nat → va_E) (pc : Nat) (lv : List (Nat × Value)) (st : List Value) : Prop :=
  ∀ (H : Heap) (locs : List Loc) (ls : Array Slot), (va_P (gD g) vwCl (PC g kc E) H ∧ H.size = gh g + kc) → va_S (gA g) s.heap H locs → lv_has ls nL lv → W p l e R s m args below meth c H locs k n Q (F0 m pc ls st)
section VPR
variable {g : Geo} {p : Program} {l : Launch} {e : Env} {R : Room} {s : State} {m : MethodId} {args : Array Value} {below : List Frame} {meth : Method} {c : Code} {cc : ByteArray} {nL : Nat} {own : String} {Ts : List Cond} {k n : Nat} {Q : State → Prop} {kc : Nat} {E E' : Nat → va_E} {pc : Nat} {lv lv' : List (Nat × Value)} {st rest : List Value}

theorem VP_sub (ks : List Nat) (hl : lv_pick lv ks = lv') (kk : VP g p l e R s m args below meth c nL k n Q kc E pc lv' st) : VP g p l e R s m args below meth c nL k n Q kc E pc lv st :=
  fun H locs ls hP hS h => kk H locs ls hP hS (lv_sub h ks hl)

theorem VP_widen {k' n' : Nat} (h1 : k ≤ k') (h2 : n ≤ n') (kk : VP g p l e R s m args below meth c nL k' n' Q kc E pc lv st) : VP g p l e R s m args below meth c nL k n Q kc E pc lv st :=
  fun H locs ls hP hS h => W.widen h1 h2 (kk H locs ls hP hS h)

theorem VP_iconst (X : Cx g p l R s m args meth c cc nL own Ts) {z : Int} (d : decode cc pc = .ok (.iconst z, 1)) (kk : VP g p l e R s m args below meth c nL k n Q kc E (pc + 1) lv (.int (iN z) :: st)) : VP g p l e R s m args below meth c nL k n Q kc E pc lv (st) := by
  obtain ⟨⟨hx, hb, hml, hown, hts⟩, hwk, hg, hl9, hlk⟩ := X
  intro H locs ls hP hS hl
  exact lv_iconst hx hb d rfl (kk H locs ls hP hS hl)

theorem VP_bipush (X : Cx g p l R s m args meth c cc nL own Ts) {z : Int} (h : (Int8.ofInt z).toInt32 = iN z) (d : decode cc pc = .ok (.bipush z, 2)) (kk : VP g p l e R s m args below meth c nL k n Q kc E (pc + 2) lv (.int (iN z) :: st)) : VP g p l e R s m args below meth c nL k n Q kc E pc lv (st) := by
  obtain ⟨⟨hx, hb, hml, hown, hts⟩, hwk, hg, hl9, hlk⟩ := X
  intro H locs ls hP hS hl
  exact lv_bipush hx hb d h (kk H locs ls hP hS hl)

theorem VP_sipush (X : Cx g p l R s m args meth c cc nL own Ts) {z : Int} (h : (Int16.ofInt z).toInt32 = iN z) (d : decode cc pc = .ok (.sipush z, 3)) (kk : VP g p l e R s m args below meth c nL k n Q kc E (pc + 3) lv (.int (iN z) :: st)) : VP g p l e R s m args below meth c nL k n Q kc E pc lv (st) := by
  obtain ⟨⟨hx, hb, hml, hown, hts⟩, hwk, hg, hl9, hlk⟩ := X
  intro H locs ls hP hS hl
  exact lv_sipush hx hb d h (kk H locs ls hP hS hl)

theorem VP_iload_n (X : Cx g p l R s m args meth c cc nL own Ts) (j : Nat) {i : Nat} {x : Int32} (hj : lv[j]? = some (i, .int x)) {i4 : Fin 4} (d : decode cc pc = .ok (.iload_n i4, 1)) (hi : (i4 : Nat) = i) (kk : VP g p l e R s m args below meth c nL k n Q kc E (pc + 1) lv (.int x :: st)) : VP g p l e R s m args below meth c nL k n Q kc E pc lv (st) := by
  obtain ⟨⟨hx, hb, hml, hown, hts⟩, hwk, hg, hl9, hlk⟩ := X
  intro H locs ls hP hS hl
  exact lv_iload_n hx hb d hi (lv_at hl j hj) (kk H locs ls hP hS hl)

theorem VP_istore_n (X : Cx g p l R s m args meth c cc nL own Ts) (lv1 : List (Nat × Value)) {i : Nat} {x : Int32} {i4 : Fin 4} (d : decode cc pc = .ok (.istore_n i4, 1)) (hi : (i4 : Nat) = i) (hn : i < nL) (hq : (i, Value.int x) :: lv.filter (fun q => !(q.1 == i) && !(q.1 + 1 == i && q.2.category == 2)) = lv1) (kk : VP g p l e R s m args below meth c nL k n Q kc E (pc + 1) lv1 (st)) : VP g p l e R s m args below meth c nL k n Q kc E pc lv (.int x :: st) := by
  obtain ⟨⟨hx, hb, hml, hown, hts⟩, hwk, hg, hl9, hlk⟩ := X
  intro H locs ls hP hS hl
  exact lv_istore_n hx hb d hi hl hn hq (fun ls1 hl1 => kk H locs ls1 hP hS hl1)

theorem VP_aload_n (X : Cx g p l R s m args meth c cc nL own Ts) (j : Nat) {i : Nat} {x : Nat} (hj : lv[j]? = some (i, .ref x)) {i4 : Fin 4} (d : decode cc pc = .ok (.aload_n i4, 1)) (hi : (i4 : Nat) = i) (kk : VP g p l e R s m args below meth c nL k n Q kc E (pc + 1) lv (.ref x :: st)) : VP g p l e R s m args below meth c nL k n Q kc E pc lv (st) := by
  obtain ⟨⟨hx, hb, hml, hown, hts⟩, hwk, hg, hl9, hlk⟩ := X
  intro H locs ls hP hS hl
  exact lv_aload_n hx hb d hi (lv_at hl j hj) (kk H locs ls hP hS hl)

theorem VP_astore_n (X : Cx g p l R s m args meth c cc nL own Ts) (lv1 : List (Nat × Value)) {i : Nat} {x : Nat} {i4 : Fin 4} (d : decode cc pc = .ok (.astore_n i4, 1)) (hi : (i4 : Nat) = i) (hn : i < nL) (hq : (i, Value.ref x) :: lv.filter (fun q => !(q.1 == i) && !(q.1 + 1 == i && q.2.category == 2)) = lv1) (kk : VP g p l e R s m args below meth c nL k n Q kc E (pc + 1) lv1 (st)) : VP g p l e R s m args below meth c nL k n Q kc E pc lv (.ref x :: st) := by
  obtain ⟨⟨hx, hb, hml, hown, hts⟩, hwk, hg, hl9, hlk⟩ := X
  intro H locs ls hP hS hl
  exact lv_astore_n hx hb d hi hl hn hq (fun ls1 hl1 => kk H locs ls1 hP hS hl1)

theorem VP_iinc (X : Cx g p l R s m args meth c cc nL own Ts) (lv1 : List (Nat × Value)) (j : Nat) {i : Nat} {z a : Int} (b : Int) (hab : a + z = b) (hj : lv[j]? = some (i, .int (iN a))) (d : decode cc pc = .ok (.iinc i z, 3)) (hn : i < nL) (hq : (i, Value.int (iN b)) :: lv.filter (fun q => !(q.1 == i) && !(q.1 + 1 == i && q.2.category == 2)) = lv1) (kk : VP g p l e R s m args below meth c nL k n Q kc E (pc + 3) lv1 (st)) : VP g p l e R s m args below meth c nL k n Q kc E pc lv (st) := by
  obtain ⟨⟨hx, hb, hml, hown, hts⟩, hwk, hg, hl9, hlk⟩ := X
  intro H locs ls hP hS hl
  exact lv_iinc hx hb d hl hj (hab ▸ iN_add a z) hn hq (fun ls1 hl1 => kk H locs ls1 hP hS hl1)

theorem VP_dup (X : Cx g p l R s m args meth c cc nL own Ts) {v : Value} (hv : v.category = 1) (d : decode cc pc = .ok (.dup, 1)) (kk : VP g p l e R s m args below meth c nL k n Q kc E (pc + 1) lv (v :: v :: st)) : VP g p l e R s m args below meth c nL k n Q kc E pc lv (v :: st) := by
  obtain ⟨⟨hx, hb, hml, hown, hts⟩, hwk, hg, hl9, hlk⟩ := X
  intro H locs ls hP hS hl
  exact lv_dup hx hb d hv (kk H locs ls hP hS hl)

theorem VP_icmp_ge (X : Cx g p l R s m args meth c cc nL own Ts) {a b : Int} {off : Int} (tgt : Nat) (ha : R32 a) (hb1 : R32 b) (d : decode cc pc = .ok (.if_icmp .ge off, 3)) (ht : (pc : Int) + off = (tgt : Int)) (kt : b ≤ a → VP g p l e R s m args below meth c nL k n Q kc E tgt lv (st)) (kf : ¬ b ≤ a → VP g p l e R s m args below meth c nL k n Q kc E (pc + 3) lv (st)) : VP g p l e R s m args below meth c nL k n Q kc E pc lv (.int (iN b) :: .int (iN a) :: st) := by
  obtain ⟨⟨hx, hb, hml, hown, hts⟩, hwk, hg, hl9, hlk⟩ := X
  intro H locs ls hP hS hl
  refine lv_icmp_ge hx hb d ht (fun h => kt ?_ H locs ls hP hS hl) (fun h => kf ?_ H locs ls hP hS hl)
  · rwa [iN_le hb1 ha] at h
  · rwa [iN_le hb1 ha] at h

theorem VP_goto (X : Cx g p l R s m args meth c cc nL own Ts) {off : Int} (tgt : Nat) (d : decode cc pc = .ok (.goto off, 3)) (ht : (pc : Int) + off = (tgt : Int)) (kk : VP g p l e R s m args below meth c nL k n Q kc E tgt lv (st)) : VP g p l e R s m args below meth c nL k n Q kc E pc lv (st) := by
  obtain ⟨⟨hx, hb, hml, hown, hts⟩, hwk, hg, hl9, hlk⟩ := X
  intro H locs ls hP hS hl
  exact lv_goto hx hb d ht (kk H locs ls hP hS hl)

theorem VP_lv (h : lv = lv') (kk : VP g p l e R s m args below meth c nL k n Q kc E pc lv' st) : VP g p l e R s m args below meth c nL k n Q kc E pc lv st := h ▸ kk
theorem VP_E (h : ∀ i, i < kc → E i = E' i) (kk : VP g p l e R s m args below meth c nL k n Q kc E' pc lv st) : VP g p l e R s m args below meth c nL k n Q kc E pc lv st := by
  intro H locs ls hP hS hl
  rw [PC_congr h] at hP
  exact kk H locs ls hP hS hl
theorem VP_new (X : Cx g p l R s m args meth c cc nL own Ts) (hgn : GN g) {ci idx N : Nat} {C : String} {T : u_T} (hc : vwCl[ci]? = some (C, T, N)) (hin : ∀ w ∈ u_ws C T N, w ∈ Ts) (ty : Nat → FieldType) (hty : ∀ k, k < N → parseFieldDescriptor (T k).2.2.1 = some (ty k)) (hcl : Cond.classLink own idx C ∈ Ts) (hinst : Cond.instantiable C N ∈ Ts) (hini : Cond.initialized C ∈ Ts) {fs : List Value} (hfs : ∀ j, j < N → defaultValue (ty j) = vp_V fs j) (hcells : k + 1 ≤ R.cells) (hslots : n + N ≤ R.slots) (d : decode cc pc = .ok (.new idx, 3)) (kk : VP g p l e R s m args below meth c nL (k + 1) (n + N) Q (kc + 1) (ue E kc (.inr (ci, fs))) (pc + 3) lv (.ref (ga g kc) :: st)) : VP g p l e R s m args below meth c nL k n Q kc E pc lv st := by
  obtain ⟨⟨hx, hb, hml, hown, hts⟩, hwk, hg, hl9, hlk⟩ := X
  intro H locs ls hPz hS hl
  obtain ⟨hP, hz⟩ := hPz
  have hKn := hwk.1.1 ci _ hc
  have ea : H.size = ga g kc := by rw [hz, hgn kc]
  refine W.newcK hx hb hown (hts _ hcl) (hts _ hinst) (hts _ hini) rfl d hcells hslots hKn.2.1 ea fun H1 kC hkC e1 z1 o1 => ?_
  have ho : ∀ (k : Nat) (x : Nat × va_E), (PC g kc E)[k]? = some x → H1[x.1]? = H[x.1]? := fun k x hx => o1 x.1 (by rw [← ea]; exact (hP k x hx).lt)
  refine kk H1 locs ls ⟨?_, by rw [z1, ← ea, hz]; omega⟩ ⟨Nat.le_trans hS.1 (by omega), fun x h1 h2 => (o1 x (by rw [← ea]; exact Nat.lt_of_lt_of_le h1 hS.1)).trans (hS.2.1 x h1 h2), hS.2.2⟩ hl
  rw [← PC_push]
  refine (hP.kept ho).app (fun k x hx => ?_)
  have hz : k < 1 := (List.getElem?_eq_some_iff.mp hx).1
  rw [show k = 0 by omega] at hx
  cases hx
  exact ⟨_, hc, (u_born ty hts hin hKn hkC e1 hty).to hfs⟩
theorem VP_newa (X : Cx g p l R s m args meth c cc nL own Ts) (hgn : GN g) {atype : ArrayType} {ty : FieldType} (hty : newarray.typeOf atype = ty) (harr : Cond.arrayClass ty ∈ Ts) (tk : Nat) {cA : ClassId} (htk : (tys g)[tk]? = some (cA, ty)) {z : Int} {N : Nat} (hzN : z = (N : Int)) (hN : N ≤ 10000) {f : (Nat → Int32) ⊕ (Nat → Int64) ⊕ (Nat → UInt32) ⊕ (Nat → UInt64) ⊕ (Nat → Option Nat)} (ha : ∀ cA : ClassId, vp_cell cA (N, f) = arrV cA N (fun _ => defaultValue ty)) (hby : N * componentBytes ty ≤ 536870912) (hcells : k + 1 ≤ R.cells) (hslots : n + N ≤ R.slots) (d : decode cc pc = .ok (.newarray atype, 2)) (kk : VP g p l e R s m args below meth c nL (k + 1) (n + N) Q (kc + 1) (ue E kc (.inl (cA, N, f))) (pc + 2) lv (.ref (ga g kc) :: st)) : VP g p l e R s m args below meth c nL k n Q kc E pc lv (.int (iN z) :: st) := by
  obtain ⟨⟨hx, hb, hml, hown, hts⟩, hwk, hg, hl9, hlk⟩ := X
  intro H locs ls hPz hS hl
  obtain ⟨hP, hz⟩ := hPz
  subst hty
  have ea : H.size = ga g kc := by rw [hz, hgn kc]
  have hr : R32 z := ⟨by omega, by omega⟩
  refine va_newaK hx hb (hts _ harr) rfl d rfl (fun h => by rw [← iN_0, iN_lt hr R32_0] at h; omega) (show (iN z).toNatClampNeg = N by rw [iN_clamp hr]; omega) hby hcells hslots ea fun H1 cB e1 z1 o1 hAr hNm => ?_
  have hcA : s.vm.findClass ("[" ++ (newarray.typeOf atype).toString) = some cA := by
    have h := (hwk.1.2 tk _ htk).2
    cases atype <;> exact h
  have hcB : cB = cA := Option.some.inj (hNm.symm.trans hcA)
  subst hcB
  have ho : ∀ (k : Nat) (x : Nat × va_E), (PC g kc E)[k]? = some x → H1[x.1]? = H[x.1]? := fun k x hx => o1 x.1 (by rw [← ea]; exact (hP k x hx).lt)
  refine kk H1 locs ls ⟨?_, by rw [z1, ← ea, hz]; omega⟩ ⟨Nat.le_trans hS.1 (by omega), fun x h1 h2 => (o1 x (by rw [← ea]; exact Nat.lt_of_lt_of_le h1 hS.1)).trans (hS.2.1 x h1 h2), hS.2.2⟩ hl
  rw [← PC_push]
  refine (hP.kept ho).app (fun k x hx => ?_)
  have hz : k < 1 := (List.getElem?_eq_some_iff.mp hx).1
  rw [show k = 0 by omega] at hx
  cases hx
  show H1[ga g kc]? = some (vp_cell _ _)
  rw [ha]
  exact e1
theorem VP_anew (X : Cx g p l R s m args meth c cc nL own Ts) (hgn : GN g) {C : String} {idx : Nat} (hcl : Cond.classLink own idx C ∈ Ts) (hao : va_AO C s) (tk : Nat) {cA : ClassId} (htk : (tys g)[tk]? = some (cA, .object C)) {z : Int} {N : Nat} (hzN : z = (N : Int)) (hN : N ≤ 10000) (hcells : k + 1 ≤ R.cells) (hslots : n + N ≤ R.slots) (d : decode cc pc = .ok (.anewarray idx, 3)) (kk : VP g p l e R s m args below meth c nL (k + 1) (n + N) Q (kc + 1) (ue E kc (.inl (cA, N, .inr (.inr (.inr (.inr (fun _ => none))))))) (pc + 3) lv (.ref (ga g kc) :: st)) : VP g p l e R s m args below meth c nL k n Q kc E pc lv (.int (iN z) :: st) := by
  obtain ⟨⟨hx, hb, hml, hown, hts⟩, hwk, hg, hl9, hlk⟩ := X
  intro H locs ls hPz hS hl
  obtain ⟨hP, hz⟩ := hPz
  have ea : H.size = ga g kc := by rw [hz, hgn kc]
  have hr : R32 z := ⟨by omega, by omega⟩
  have hNN : N = (iN z).toNatClampNeg := by rw [iN_clamp hr]; omega
  have hneg : ¬ iN z < 0 := fun h => by rw [← iN_0, iN_lt hr R32_0] at h; omega
  generalize iN z = x at hNN hneg ⊢
  subst hNN
  refine W.anew hx hb hown (hts _ hcl) (va_AO.use hao) rfl d rfl hneg (by omega) hcells hslots fun cB kA comp f1 f2 f3 f4 => ?_
  obtain ⟨kA', comp', h1, h2, h3, h4⟩ := (hwk.1.2 tk _ htk).2
  have hcB : cB = cA := Option.some.inj (f1.symm.trans h4)
  subst hcB
  generalize hH1 : H.push ({ cls := cB, slots := Array.replicate x.toNatClampNeg .null, vm := .none } : Cell) = H1
  have z1 : H1.size = H.size + 1 := by rw [← hH1, Array.size_push]
  have e1 : H1[H.size]? = some (arrV cB x.toNatClampNeg (fun _ => .null)) := by rw [← hH1, Array.getElem?_push_size, ← arrV_new]
  have o1 : ∀ q : Nat, q < H.size → H1[q]? = H[q]? := fun q hq => by rw [← hH1, Array.getElem?_push, if_neg (Nat.ne_of_lt hq)]
  have ho : ∀ (k : Nat) (x : Nat × va_E), (PC g kc E)[k]? = some x → H1[x.1]? = H[x.1]? := fun k x hx => o1 x.1 ((hP k x hx).lt)
  have key := kk H1 locs ls ⟨?_, by rw [z1, hz]; omega⟩ ⟨Nat.le_trans hS.1 (by omega), fun x h1 h2 => (o1 x (Nat.lt_of_lt_of_le h1 hS.1)).trans (hS.2.1 x h1 h2), hS.2.2⟩ hl
  · rw [← ea] at key
    exact key
  · rw [← PC_push]
    refine (hP.kept ho).app (fun k x hx => ?_)
    have hz : k < 1 := (List.getElem?_eq_some_iff.mp hx).1
    rw [show k = 0 by omega] at hx
    cases hx
    show H1[ga g kc]? = some (vp_cell _ _)
    rw [vp_cell_q, ← ea]
    exact e1
theorem VP_putF (X : Cx g p l R s m args meth c cc nL own Ts) (hgn : GN g) (hin2 : meth.name = "<init>") {ci idx N : Nat} {C ref : String} {T : u_T} (a : Nat) (ha : a < kc) {fs : List Value} (he : E a = .inr (ci, fs)) (hc : vwCl[ci]? = some (C, T, N)) (hin : ∀ w ∈ u_ws C T N, w ∈ Ts) (j : Nat) (hj : j < N) (hlk0 : Cond.fieldLink own idx ref (T j).2.1 (T j).2.2.1 ∈ Ts) (href : ref = (T j).1) (hdecl : (T j).1 = own) {v : Value} {ty : FieldType} (ty0 : Nat → FieldType) (hty : ∀ k, k < N → parseFieldDescriptor (T k).2.2.1 = some (ty0 k)) (hnm : ∀ a, a < N → ∀ b, b < N → a ≠ b → (T a).2.1 ≠ (T b).2.1) (hfin : (T j).2.2.2 = true) (hd : parseFieldDescriptor (T j).2.2.1 = some ty) (hn : narrow ty v = v) (hfit : fits ty v = true) (hlen : j < fs.length) (d : decode cc pc = .ok (.putfield idx, 3)) (kk : VP g p l e R s m args below meth c nL k n Q kc (ue E a (.inr (ci, fs.set j v))) (pc + 3) lv st) : VP g p l e R s m args below meth c nL k n Q kc E pc lv (v :: .ref (ga g a) :: st) := by
  obtain ⟨⟨hx, hb, hml, hown, hts⟩, hwk, hg, hl9, hlk⟩ := X
  intro H locs ls hPz hS0 hl
  obtain ⟨hP, hz⟩ := hPz
  have he1 : (PC g kc E)[a]? = some (ga g a, .inr (ci, fs)) := by rw [PC_at ha, he]
  have hap := va_apart (own := own) hts hin ty0 hty hnm hwk.1 hc
  obtain ⟨r, h1, cell, q1, q2, q3, q4⟩ := hP a _ he1
  have hr : r = (C, T, N) := Option.some.inj (h1.symm.trans hc)
  subst hr
  obtain ⟨hS, hfc, kC, hkC, hkind⟩ := hwk.1.1 ci _ hc
  obtain ⟨cf, kf, fi, f, hi, hsl⟩ := hS j hj
  have hlay := hts _ (hin _ (u_in_lay hj))
  unfold u_lay at hlay
  rw [if_pos hfin] at hlay
  have hst := (u_facts hfc hkC (u_lays hts hin hj) hi).1
  have hcf : m.cls = cf := by
    obtain ⟨_, _, c', _, _, _, -, -, hf', -, -, -, hown2, -⟩ := Cond.laysFinal_spec hlay
    have e1 : c' = cf := by have := hi.symm.trans hf'; simp at this; exact this.1.symm
    rw [hdecl] at hown2
    rw [← e1]; exact Option.some.inj (hown.symm.trans hown2)
  have h6 := u_fits hfc hkC hkind (Or.inr hlay) hi hd hn hfit
  refine W.putFinK hx hb hown (hts _ hlk0) (by rw [href]; exact hi) hst hcf hin2 (by rw [q2]; exact h6) q1 q3 (by rw [hsl]; exact k2_hasslot (q4 j hj)) rfl rfl d fun H' e1 e2 e3 => ?_
  rw [hsl] at e1 ⊢
  refine kk H' _ ls ⟨?_, by rw [e2, hz]⟩ (hS0.put e2 e3 (hgn.D.2 a _ he1)) hl
  rw [← PC_set ha]
  exact hP.set hgn.D he1 ⟨_, hc, t_OB.to (V := updV (vp_V fs) j v) ⟨_, e1, q2, q3, t_set q4 hap hj v⟩ (fun i _ => vp_updV_set hlen v i)⟩ e3
theorem VP_put (X : Cx g p l R s m args meth c cc nL own Ts) (hgn : GN g) {ci idx N : Nat} {C ref : String} {T : u_T} (a : Nat) (ha : a < kc) {fs : List Value} (he : E a = .inr (ci, fs)) (hc : vwCl[ci]? = some (C, T, N)) (hin : ∀ w ∈ u_ws C T N, w ∈ Ts) (j : Nat) (hj : j < N) (hlk0 : Cond.fieldLink own idx ref (T j).2.1 (T j).2.2.1 ∈ Ts) (href : ref = (T j).1) {v : Value} {ty : FieldType} (ty0 : Nat → FieldType) (hty : ∀ k, k < N → parseFieldDescriptor (T k).2.2.1 = some (ty0 k)) (hnm : ∀ a, a < N → ∀ b, b < N → a ≠ b → (T a).2.1 ≠ (T b).2.1) (hfin : (T j).2.2.2 = false) (hd : parseFieldDescriptor (T j).2.2.1 = some ty) (hn : narrow ty v = v) (hfit : fits ty v = true) (hlen : j < fs.length) (d : decode cc pc = .ok (.putfield idx, 3)) (kk : VP g p l e R s m args below meth c nL k n Q kc (ue E a (.inr (ci, fs.set j v))) (pc + 3) lv st) : VP g p l e R s m args below meth c nL k n Q kc E pc lv (v :: .ref (ga g a) :: st) := by
  obtain ⟨⟨hx, hb, hml, hown, hts⟩, hwk, hg, hl9, hlk⟩ := X
  intro H locs ls hPz hS0 hl
  obtain ⟨hP, hz⟩ := hPz
  have he1 : (PC g kc E)[a]? = some (ga g a, .inr (ci, fs)) := by rw [PC_at ha, he]
  have hap := va_apart (own := own) hts hin ty0 hty hnm hwk.1 hc
  obtain ⟨r, h1, cell, q1, q2, q3, q4⟩ := hP a _ he1
  have hr : r = (C, T, N) := Option.some.inj (h1.symm.trans hc)
  subst hr
  obtain ⟨hS, hfc, kC, hkC, hkind⟩ := hwk.1.1 ci _ hc
  obtain ⟨cf, kf, fi, f, hi, hsl⟩ := hS j hj
  have hlay := hts _ (hin _ (u_in_lay hj))
  unfold u_lay at hlay
  rw [if_neg (by rw [hfin]; decide)] at hlay
  have hst := (u_facts hfc hkC (u_lays hts hin hj) hi).1
  have h6 := u_store hfc hkC hkind hlay hi hd hn hfit
  refine W.putK hx hb (f := f) ⟨hown, hts _ hlk0, ⟨_, _, _, by rw [href]; exact hi⟩, hst⟩ (by rw [q2]; exact h6) q1 q3 (by rw [hsl]; exact k2_hasslot (q4 j hj)) rfl rfl d fun H' e1 e2 e3 => ?_
  rw [hsl] at e1 ⊢
  refine kk H' _ ls ⟨?_, by rw [e2, hz]⟩ (hS0.put e2 e3 (hgn.D.2 a _ he1)) hl
  rw [← PC_set ha]
  exact hP.set hgn.D he1 ⟨_, hc, t_OB.to (V := updV (vp_V fs) j v) ⟨_, e1, q2, q3, t_set q4 hap hj v⟩ (fun i _ => vp_updV_set hlen v i)⟩ e3
theorem VP_get (X : Cx g p l R s m args meth c cc nL own Ts) {ci idx N : Nat} {C ref : String} {T : u_T} (a : Nat) (ha : a < kc) {fs : List Value} (he : E a = .inr (ci, fs)) (hc : vwCl[ci]? = some (C, T, N)) (hin : ∀ w ∈ u_ws C T N, w ∈ Ts) (j : Nat) (hj : j < N) (hlk0 : Cond.fieldLink own idx ref (T j).2.1 (T j).2.2.1 ∈ Ts) (href : ref = (T j).1) {v : Value} (hv : fs[j]? = some v) (d : decode cc pc = .ok (.getfield idx, 3)) (kk : VP g p l e R s m args below meth c nL k n Q kc E (pc + 3) lv (v :: st)) : VP g p l e R s m args below meth c nL k n Q kc E pc lv (.ref (ga g a) :: st) := by
  obtain ⟨⟨hx, hb, hml, hown, hts⟩, hwk, hg, hl9, hlk⟩ := X
  intro H locs ls hPz hS hl
  have he1 : (PC g kc E)[a]? = some (ga g a, .inr (ci, fs)) := by rw [PC_at ha, he]
  exact va_get hx hb hts hin hown hwk.1 hPz.1 a he1 hc j hj (hts _ hlk0) (fun x hx1 => by rw [href]; exact hx1) hv d (kk H locs ls hPz hS hl)
theorem VP_aast (X : Cx g p l R s m args meth c cc nL own Ts) (hgn : GN g) (a : Nat) (ha : a < kc) (tk : Nat) {cA : ClassId} {r : vw_C} (htk : (tys g)[tk]? = some (cA, .object r.1)) {N : Nat} {f : Nat → Option Nat} (he : E a = .inl (cA, N, .inr (.inr (.inr (.inr f))))) (v : Nat) (hv : v < kc) {ci : Nat} {vs : List Value} (hev : E v = .inr (ci, vs)) (hc : vwCl[ci]? = some r) {i : Int} (j : Nat) (hij : i = (j : Int)) (hj : j < N) (hN : N ≤ 10000) (d : decode cc pc = .ok (.aastore, 1)) (kk : VP g p l e R s m args below meth c nL k n Q kc (ue E a (.inl (cA, N, .inr (.inr (.inr (.inr (fun q => if q = j then some (ga g v) else f q))))))) (pc + 1) lv st) : VP g p l e R s m args below meth c nL k n Q kc E pc lv (.ref (ga g v) :: .int (iN i) :: .ref (ga g a) :: st) := by
  obtain ⟨⟨hx, hb, hml, hown, hts⟩, hwk, hg, hl9, hlk⟩ := X
  intro H locs ls hPz hS hl
  obtain ⟨hP, hz⟩ := hPz
  have hr : R32 i := ⟨by omega, by omega⟩
  have hcl : (iN i).toNatClampNeg = j := by rw [iN_clamp hr]; omega
  have h0 : ¬ iN i < 0 := fun h => by rw [← iN_0, iN_lt hr R32_0] at h; omega
  have he1 : (PC g kc E)[a]? = some (ga g a, .inl (cA, N, .inr (.inr (.inr (.inr f))))) := by rw [PC_at ha, he]
  have hev1 : (PC g kc E)[v]? = some (ga g v, .inr (ci, vs)) := by rw [PC_at hv, hev]
  obtain ⟨r', hr', cellV, g1, g2, g3, -⟩ := hP v _ hev1
  have hcls := (hwk.1.1 ci r hc).2
  obtain ⟨kA, comp, k1, k2, k3, -⟩ := (hwk.1.2 tk _ htk).2
  have hcomp : comp = (gD g).1 ci := Option.some.inj (k3.symm.trans hcls.1)
  subst hcomp
  obtain ⟨kC, hkC, -⟩ := hcls.2
  refine W.aast hx hb (hP a _ he1) (fun q h => by cases h) (fun h => by cases h) k1 k2 rfl hkC ⟨h0, by show _ < (arrV _ _ _).slots.size; rw [arrV_size, hcl]; exact hj⟩ g1 (fun q h => by rw [g3] at h; cases h) (by rw [g2]; exact hkC) (by rw [g2]; exact va_assign hcls) rfl rfl d fun H1 e1 z1 oq => ?_
  refine kk H1 _ ls ⟨?_, by rw [z1, hz]⟩ (hS.put z1 oq (hgn.D.2 a _ he1)) hl
  rw [← PC_set ha]
  refine hP.set hgn.D he1 ?_ oq
  show H1[ga g a]? = some (vp_cell _ _)
  rw [e1]
  rw [vp_cell_q, vp_cell_q, arrV_store, hcl]
  congr 2
  funext q
  by_cases hq : q = j
  · subst hq
    simp [updV, va_rf]
  · simp [updV, hq]
theorem VP_obj (X : Cx g p l R s m args meth c cc nL own Ts) {idx a : Nat} (hlink : Cond.methodLink own idx objectInit ∈ Ts) (hinst : Cond.instanceMethod objectInit ∈ Ts) (hcode : Cond.code objectInit ⟨#[0xb1]⟩ 1 none ∈ Ts) (hfr : 1 ≤ R.frames) (hlo : 12 ≤ R.locals) (d : decode cc pc = .ok (.invokespecial idx, 3)) (kk : VP g p l e R s m args below meth c nL k n Q kc E (pc + 3) lv []) : VP g p l e R s m args below meth c nL k n Q kc E pc lv [.ref a] := by
  obtain ⟨⟨hx, hb, hml, hown, hts⟩, hwk, hg, hl9, hlk⟩ := X
  intro H locs ls hPz hS hl
  exact W.objInit hx hb hown (hts _ hlink) (hts _ hinst) (hts _ hcode) rfl (by rw [hml]; exact hl.1) rfl d hfr (show 2 * 0 + 0 + 12 ≤ R.locals by omega) (kk H locs ls hPz hS hl)
theorem PWorld.call {U : State} {H : Heap} {locs : List Loc} (hk : WK g s) (hgn : GN g) (hwn : WN s) (hP : va_P (gD g) vwCl (PC g kc E) H ∧ H.size = gh g + kc) (hS : va_S (gA g) s.heap H locs) (hU : U.heap = H) (hW : s.WarmedH U.vm) : PWorld g kc E U :=
  ⟨by rw [hU]; exact hP, WK.call hk hS hU hW, hgn, WN.warm hW hwn⟩
theorem VP_callI (X : Cx g p l R s m args meth c cc nL own Ts) (hgn : GN g) (hwn : WN s) {y : MethodName} {idx maxL mc ms b kc' : Nat} {bytes : ByteArray} {ws ws' : List Cond} {rm : Room} (hM : Met l y ws rm (va_Pc [.ref (ga g b)] (PWorld g kc E)) (QP g kc' E') mc ms (gA g)) (hG : GoodIn Ts ws) (hw : ws = Cond.code y bytes maxL none :: ws') (hrc : rm.cells = mc) (hrs : rm.slots = ms) (hini : Cond.initialized y.cls ∈ Ts) (hl : Cond.methodLink own idx y ∈ Ts) (hin : Cond.instanceMethod y ∈ Ts) (hy1 : y.name = "<init>") (hd : y.cls ≠ "java/lang/invoke/MethodHandle" ∧ y.cls ≠ "java/lang/invoke/VarHandle" ∧ (parseMethodDescriptor y.desc).map (fun d => d.parameters.length) = some 0) (hR : rm.frames + 1 ≤ R.frames ∧ 8 + (maxL + 11) + rm.locals ≤ R.locals) (hsum : (rest.map fun v => v.category).sum ≤ 8) (hf : k + mc ≤ R.cells ∧ n + ms ≤ R.slots) (d : decode cc pc = .ok (.invokespecial idx, 3)) (kk : VP g p l e R s m args below meth c nL (k + mc) (n + ms) Q kc' E' (pc + 3) lv rest) : VP g p l e R s m args below meth c nL k n Q kc E pc lv (.ref (ga g b) :: rest) := by
  obtain ⟨⟨hx, hb, hml, hown, hts⟩, hwk, hg, hl9, hlk⟩ := X
  intro H locs ls hP hS hlv
  have hrun := va_runI (p := p) (l := l) (e := e) (R := R) (s := s) (m := m) (args := args) (below := below) (meth := meth) (c := c) (H := H) (locs := locs) (cells := k) (slots := n) (g := F0 m pc ls (.ref (ga g b) :: rest)) (rest := rest) (As := []) ⟨hx, hb, hml, hown, hts⟩ hM (cwI 0 hts hG hw hrc hrs (hts _ hini) (hts _ hl) (hts _ hin) hy1 hd hR) ⟨PWorld.blind, fun U hU hW => ⟨rfl, PWorld.call hwk hgn hwn hP hS hU hW⟩⟩ rfl rfl hlv.1 rfl (lv_room hsum) d hf
  refine va_callv hrun hS (fun q _ h => h) (fun q h => h) (fun u t H1 locs1 ht hvm hw hB hz hk1 hS1 => ?_)
  exact kk H1 locs1 ls (by rw [← ht]; exact hB) hS1 hlv
theorem VP_callN (X : Cx g p l R s m args meth c cc nL own Ts) (hgn : GN g) (hwn : WN s) {y : MethodName} {idx maxL mc ms b kc' : Nat} {bytes : ByteArray} {ws ws' : List Cond} {rm : Room} (hM : Met l y ws rm (va_Pc [.ref (ga g b)] (PWorld g kc E)) (QP g kc' E') mc ms (gA g)) (hG : GoodIn Ts ws) (hw : ws = Cond.code y bytes maxL none :: ws') (hrc : rm.cells = mc) (hrs : rm.slots = ms) (hini : Cond.initialized y.cls ∈ Ts) {host : String} (hl : va_Nw (.methodLinkNest own idx y host) s) (hin : Cond.instanceMethod y ∈ Ts) (hy1 : y.name = "<init>") (hd : y.cls ≠ "java/lang/invoke/MethodHandle" ∧ y.cls ≠ "java/lang/invoke/VarHandle" ∧ (parseMethodDescriptor y.desc).map (fun d => d.parameters.length) = some 0) (hR : rm.frames + 1 ≤ R.frames ∧ 8 + (maxL + 11) + rm.locals ≤ R.locals) (hsum : (rest.map fun v => v.category).sum ≤ 8) (hf : k + mc ≤ R.cells ∧ n + ms ≤ R.slots) (d : decode cc pc = .ok (.invokespecial idx, 3)) (kk : VP g p l e R s m args below meth c nL (k + mc) (n + ms) Q kc' E' (pc + 3) lv rest) : VP g p l e R s m args below meth c nL k n Q kc E pc lv (.ref (ga g b) :: rest) := by
  obtain ⟨⟨hx, hb, hml, hown, hts⟩, hwk, hg, hl9, hlk⟩ := X
  intro H locs ls hP hS hlv
  have hrun := va_runIN (p := p) (l := l) (e := e) (R := R) (s := s) (m := m) (args := args) (below := below) (meth := meth) (c := c) (H := H) (locs := locs) (cells := k) (slots := n) (g := F0 m pc ls (.ref (ga g b) :: rest)) (rest := rest) (As := []) ⟨hx, hb, hml, hown, hts⟩ hM ⟨va_cnB 0 hts hG hw hrc hrs hl (hts _ hini) hd hR, hy1, hts _ hin⟩ ⟨PWorld.blind, fun U hU hW => ⟨rfl, PWorld.call hwk hgn hwn hP hS hU hW⟩⟩ rfl rfl hlv.1 rfl (lv_room hsum) d hf
  refine va_callv hrun hS (fun q _ h => h) (fun q h => h) (fun u t H1 locs1 ht hvm hw hB hz hk1 hS1 => ?_)
  exact kk H1 locs1 ls (by rw [← ht]; exact hB) hS1 hlv
theorem VP_vret (X : Cx g p l R s m args meth c cc nL own Ts) (hr : meth.sig.returnType = none) (hE : ∀ i, i < kc → E i = E' i) (d : decode cc pc = .ok (.return_, 1)) {mc ms : Nat} (hk : k ≤ mc) (hn : n ≤ ms) : VP g p l e R s m args below meth c nL k n (MQ below (QP g kc E') args s mc ms (gA g)) kc E pc lv [] := by
  obtain ⟨⟨hx, hb, hml, hown, hts⟩, hwk, hg, hl9, hlk⟩ := X
  intro H locs ls hP hS hl
  refine W.widen hk hn ?_
  rw [PC_congr hE] at hP
  refine W.vret hx hb hr (fun t ht hW => ⟨⟨(), rfl, trivial, by show va_P (gD g) vwCl (PC g kc E') t.heap ∧ t.heap.size = gh g + kc; rw [ht]; exact hP⟩, hS.F ht⟩) hS.2.2 d hlk
theorem VP_met {y : MethodName} {ws ws' : List Cond} {rm : Room} {maxL : Nat} {As : List Value} {Qc : Array Value → State → Outcome → State → Prop} {mc ms : Nat} (hl9 : l.stackTraces = false) (hy : plainName y.cls = true) (hw : ws = Cond.code y cc maxL none :: ws') (hlen : (lg_sl As).length ≤ maxL)
    (body : ∀ (p : Program) (e : Env) (s : State) (m : MethodId) (below : List Frame) (meth : Method) (c : Code), Cx g p l rm s m As.toArray meth c cc maxL y.cls ws → GN g → WN s → meth.sig.returnType = none → meth.name = y.name → VP g p l e rm s m As.toArray below meth c maxL 0 0 (MQ below Qc As.toArray s mc ms (gA g)) kc E 0 (lv_args 0 As) []) : Met l y ws rm (va_Pc As (PWorld g kc E)) Qc mc ms (gA g) := by
  refine Met.ofW (cc := cc) (maxL := maxL) (ret := none) hy hw ?_
  intro p e s m args below meth c s₁ B hml hv
  obtain ⟨rfl, hP, hk, hgn, hwn⟩ := hv
  rw [lg_entry_eq]
  exact body p e s m below meth c ⟨⟨B.exec, B.bytes, hml, findClass_of_methodNamed B.named, atoms_spec (ws := ws) B.pre⟩, hk, hgn.ok, hl9, B.notSynchronized⟩ hgn hwn B.returns (name_of_methodNamed B.named B.method).1 s.heap [] _ hP va_S.rf (lv_entry As hlen)
end VPR
