/-! ===== the law's wrappers: a call, its exceptions as numbers ===== -/
section VC
variable {g : Geo} {p : Program} {l : Launch} {e : Env} {R : Room} {s : State} {m : MethodId} {args : Array Value} {below : List Frame} {meth : Method} {c : Code} {cc : ByteArray} {nL : Nat} {own : String} {Ts : List Cond} {k n : Nat} {Q : State → Prop} {σ : St} {pc : Nat} {lv lv' : List (Nat × Value)} {st : List Value}
theorem VX_catchW {E : String} (X : Cx g p l R s m args meth c cc nL own Ts) (hE : E ∈ excs) (pre : List ExceptionTableEntry) (x : ExceptionTableEntry) (suf : List ExceptionTableEntry) (hsplit : c.exceptionTable.toList = pre ++ x :: suf)
    (hpass : ∀ z ∈ pre, z.catchType ≠ 0 ∧ ∃ nm : String, Cond.classLink own z.catchType nm ∈ Ts ∧ nm ∈ excs ∧ E ≠ nm) (hx0 : covers x pc = true) (h0 : x.catchType ≠ 0)
    (hlink : Cond.classLink own x.catchType E ∈ Ts)
    (kk : ∀ q : Nat, V g p l e R s m args below meth c nL k n Q σ x.handlerPc lv [.ref q]) : VX g p l e R s m args below meth c nL k n Q σ E pc lv st := by
  obtain ⟨⟨hx, hb, hml, hown, hts⟩, hwk, hg, hl9, hlk⟩ := X
  intro H locs ls q ce hP hS hl h1 h2 h3
  refine vx_catch hown pre x suf hsplit (fun z hz => ?_) hx0 h0 (hts _ hlink) (va_Nw.use rfl (hwk.2.2.2.2.1 E hE)) h1 h2 h3 (kk q H locs ls hP hS hl)
  obtain ⟨h, nm, h4, h5, h6⟩ := hpass z hz
  exact Or.inr ⟨h, nm, hts _ h4, hwk.2.2.2.2.2.2.1 E hE nm h5 h6⟩
end VC
theorem pass_nil {Q : ExceptionTableEntry → Prop} : ∀ z ∈ ([] : List ExceptionTableEntry), Q z := fun z h => by cases h
theorem pass_cons {Q : ExceptionTableEntry → Prop} {a : ExceptionTableEntry} {r : List ExceptionTableEntry} (h : Q a) (hr : ∀ z ∈ r, Q z) : ∀ z ∈ a :: r, Q z := fun z hz => by
  rcases List.mem_cons.mp hz with e | e
  · rw [e]; exact h
  · exact hr z e

theorem share_X {σ : St} {n : Nat} {z : UInt32} {a : Int} (hn30 : n ≤ 30) (hk : ∀ l, l < n → 0 ≤ σ.1 (7 + 2 * l) 1 ∧ σ.1 (7 + 2 * l) 1 ≤ 60) (h0 : ¬ (sumF (fun l => σ.1 (7 + 2 * l) 1) n) = 0) (hz : z = FP.fdiv (FP.i2f (iN a)) (FP.i2f (iN (sumF (fun l => σ.1 (7 + 2 * l) 1) n)))) : fpX FP.Core.b32 z.toNat := by
  have hb := sumF_b2 (f := fun l => σ.1 (7 + 2 * l) 1) (c := 60) (m := n) hk n (Nat.le_refl n)
  rw [hz]
  have e := fp_pos32 (sumF (fun l => σ.1 (7 + 2 * l) 1) n).toNat (by omega) (by omega)
  rw [show (((sumF (fun l => σ.1 (7 + 2 * l) 1) n).toNat : Nat) : Int) = (sumF (fun l => σ.1 (7 + 2 * l) 1) n) by omega] at e
  exact (fp_fdivX (fp_i2f _) e).1
theorem mean_X {σ : St} {n : Nat} {z : UInt64} {a : Int} (hn30 : n ≤ 30) (h0 : ¬ (sumF (fun l => if σ.1 (7 + 2 * l) 9 = 0 then 0 else 1) n) = 0) (hz : z = FP.ddiv (FP.i2d (iN a)) (FP.i2d (iN (sumF (fun l => if σ.1 (7 + 2 * l) 9 = 0 then 0 else 1) n)))) : fpX FP.Core.b64 z.toNat := by
  have hb := sumF_b (f := fun l => if σ.1 (7 + 2 * l) 9 = 0 then (0 : Int) else 1) (c := 1) (fun l => by split <;> omega) n
  rw [hz]
  have e := fp_pos64 (sumF (fun l => if σ.1 (7 + 2 * l) 9 = 0 then 0 else 1) n).toNat (by omega) (by omega)
  rw [show (((sumF (fun l => if σ.1 (7 + 2 * l) 9 = 0 then 0 else 1) n).toNat : Nat) : Int) = (sumF (fun l => if σ.1 (7 + 2 * l) 9 = 0 then 0 else 1) n) by omega] at e
  exact (fp_ddivX (fp_i2d _) e).1

set_option maxRecDepth 100000 in
set_option maxHeartbeats 4000000 in
theorem m_L_track (g : Geo) (l : Launch) (hl9 : l.stackTraces = false) (σ : St) (hR : RG σ) (h0 : 0 ≤ σ.1 0 1) (h1 : σ.1 0 1 ≤ 4) : vx_Met l yL_track wsL_track ({ frames := 7, cells := 1, slots := 6, locals := 110 }) (va_Pc [.ref (ga g (0)), .ref (ga g (110))] (World g σ)) (QI g (fun z u => (z = 0 ∧ ∃ v u1, ((fun z u => σ.1 0 1 < 4 ∧ z = σ.1 0 1 ∧ u = sw σ 0 1 (σ.1 0 1 + 1)) v u1) ∧ u = (u1.1, v, u1.2.2)) ∨ (z = 1 ∧ (¬ σ.1 0 1 < 4 ∧ u = σ)))) (XT g (fun E u => False)) 1 6 (gA g) := by
  refine V_metH hl9 (by decide) rfl (Nat.le_of_ble_eq_true rfl) ?_
  intro p9 e9 s9 m9 b9 t9 c9 X htab hr
  refine V_lv (lv' := [(0, .ref (ga g (0))), (1, .ref (ga g (110)))]) rfl ?_
  refine V_aload_n X 1 rfl dL_track_0 rfl ?_
  refine V_iconst X dL_track_1 ?_
  refine V_aload_n X 0 rfl dL_track_2 rfl ?_
  refine V_callV_Ix X (na := 0) (ci := 6) (b0 := 0) (by decide) (rfl) (by decide) rfl (m_X6_track g l hl9 σ hR h0 h1) gL_track_X6_track rfl rfl rfl (by decide +kernel) ⟨Nat.le_of_ble_eq_true rfl, Nat.le_of_ble_eq_true rfl⟩ rfl rfl (Nat.le_of_ble_eq_true rfl) ⟨Nat.le_of_ble_eq_true rfl, Nat.le_of_ble_eq_true rfl⟩ dL_track_3 (fun E u hp => ?_) (fun z1 u2 z1r hp3 => ?_)
  · skip
    obtain ⟨hE, hc⟩ := hp
    subst hE
    refine VX_catchW X (List.mem_of_getElem? (i := 0) rfl) [] ({ startPc := 0, endPc := 8, handlerPc := 11, catchType := 13 }) [] htab (pass_nil) (by decide) (by decide) (List.mem_of_getElem? (i := 1) rfl) (fun q9 => ?_)
    refine V_astore_n X [(2, .ref q9), (0, .ref (ga g (0))), (1, .ref (ga g (110)))] dL_track_11 rfl (by decide) rfl ?_
    refine V_iconst X dL_track_12 ?_
    exact V_iretX X hr rfl ⟨by decide, by decide⟩ (by exact Or.inr (⟨rfl, hc⟩)) dL_track_13 (by decide) (by decide)
  · skip
    refine V_i2l X z1r dL_track_6 ?_
    refine V_lastore X dL_track_7 ?_
    refine V_goto X 14 dL_track_8 (by decide) ?_
    refine V_iconst X dL_track_14 ?_
    exact V_iretX X hr rfl ⟨by decide, by decide⟩ (by exact Or.inl ⟨rfl, z1, u2, hp3, rfl⟩) dL_track_15 (by decide) (by decide)
set_option maxRecDepth 100000 in
set_option maxHeartbeats 4000000 in
theorem m_L_stretch (g : Geo) (l : Launch) (hl9 : l.stackTraces = false) (σ : St) (hR : RG σ) (a len lim : Int) (ha : R32 a) (hl1 : R32 len) (hl2 : R32 lim) (hT4 : σ.1 0 1 ≤ 4) (hTk : ∀ t, t < 4 → 0 ≤ σ.1 (73 + 3 * t) 2 ∧ σ.1 (73 + 3 * t) 2 ≤ 12 ∧ 0 ≤ σ.1 (73 + 3 * t) 3 ∧ σ.1 (73 + 3 * t) 3 ≤ 1000) : vx_Met l yL_stretch wsL_stretch ({ frames := 8, cells := 2, slots := 12, locals := 135 }) (va_Pc [.ref (ga g (0)), .int (iN (a)), .int (iN (len)), .int (iN (lim)), .ref (ga g (110))] (World g σ)) (QI g (fun z u => (z = 0 ∧ ∃ v u1, ((fun z u => (0 ≤ a ∧ a < σ.1 0 1) ∧ ((1 ≤ len ∧ len ≤ 30) ∧ 1 ≤ lim ∧ lim ≤ 9) ∧ σ.1 (73 + 3 * a.toNat) 4 = 0 ∧ σ.1 (73 + 3 * a.toNat) 2 < 12 ∧ z = σ.1 (73 + 3 * a.toNat) 3 + len ∧ u = appF σ a.toNat (σ.1 (73 + 3 * a.toNat) 2).toNat len lim) v u1) ∧ u = (u1.1, v, u1.2.2)) ∨ (z = 1 ∧ (¬ (0 ≤ a ∧ a < σ.1 0 1)) ∧ u = σ) ∨ (z = 2 ∧ ((0 ≤ a ∧ a < σ.1 0 1) ∧ ¬ ((1 ≤ len ∧ len ≤ 30) ∧ 1 ≤ lim ∧ lim ≤ 9)) ∧ u = σ) ∨ (z = 3 ∧ ((0 ≤ a ∧ a < σ.1 0 1) ∧ ((1 ≤ len ∧ len ≤ 30) ∧ 1 ≤ lim ∧ lim ≤ 9) ∧ ¬ σ.1 (73 + 3 * a.toNat) 4 = 0) ∧ u = σ) ∨ (z = 4 ∧ ((0 ≤ a ∧ a < σ.1 0 1) ∧ ((1 ≤ len ∧ len ≤ 30) ∧ 1 ≤ lim ∧ lim ≤ 9) ∧ σ.1 (73 + 3 * a.toNat) 4 = 0 ∧ ¬ σ.1 (73 + 3 * a.toNat) 2 < 12) ∧ u = σ))) (XT g (fun E u => False)) 2 12 (gA g) := by
  refine V_metH hl9 (by decide) rfl (Nat.le_of_ble_eq_true rfl) ?_
  intro p9 e9 s9 m9 b9 t9 c9 X htab hr
  refine V_lv (lv' := [(0, .ref (ga g (0))), (1, .int (iN (a))), (2, .int (iN (len))), (3, .int (iN (lim))), (4, .ref (ga g (110)))]) rfl ?_
  refine V_aload X 4 rfl dL_stretch_0 ?_
  refine V_iconst X dL_stretch_2 ?_
  refine V_aload_n X 0 rfl dL_stretch_3 rfl ?_
  refine V_iload_n X 1 rfl dL_stretch_4 rfl ?_
  refine V_iload_n X 2 rfl dL_stretch_5 rfl ?_
  refine V_iload_n X 3 rfl dL_stretch_6 rfl ?_
  refine V_callV_Ix X (na := 3) (ci := 6) (b0 := 0) (by decide) (rfl) (by decide) rfl (m_X6_stretch g l hl9 σ hR a len lim ha hl1 hl2 hT4 hTk) gL_stretch_X6_stretch rfl rfl rfl (by decide +kernel) ⟨Nat.le_of_ble_eq_true rfl, Nat.le_of_ble_eq_true rfl⟩ rfl rfl (Nat.le_of_ble_eq_true rfl) ⟨Nat.le_of_ble_eq_true rfl, Nat.le_of_ble_eq_true rfl⟩ dL_stretch_7 (fun E u hp => ?_) (fun z1 u2 z1r hp3 => ?_)
  · skip
    obtain ⟨hpe, hpr⟩ := hp
    rcases hpe with ⟨hE, hc⟩ | ⟨hE, hc⟩ | ⟨hE, hc⟩ | ⟨hE, hc⟩
    · skip
      subst hE
      refine VX_catchW X (List.mem_of_getElem? (i := 2) rfl) [] ({ startPc := 0, endPc := 12, handlerPc := 15, catchType := 19 }) [{ startPc := 0, endPc := 12, handlerPc := 19, catchType := 21 }, { startPc := 0, endPc := 12, handlerPc := 23, catchType := 23 }, { startPc := 0, endPc := 12, handlerPc := 27, catchType := 13 }] htab (pass_nil) (by decide) (by decide) (List.mem_of_getElem? (i := 1) rfl) (fun q9 => ?_)
      refine V_astore X [(5, .ref q9), (0, .ref (ga g (0))), (1, .int (iN (a))), (2, .int (iN (len))), (3, .int (iN (lim))), (4, .ref (ga g (110)))] dL_stretch_15 (by decide) rfl ?_
      refine V_iconst X dL_stretch_17 ?_
      exact V_iretX X hr rfl ⟨by decide, by decide⟩ (by exact Or.inr (Or.inl ⟨rfl, hc, hpr⟩)) dL_stretch_18 (by decide) (by decide)
    · skip
      subst hE
      refine VX_catchW X (List.mem_of_getElem? (i := 1) rfl) [{ startPc := 0, endPc := 12, handlerPc := 15, catchType := 19 }] ({ startPc := 0, endPc := 12, handlerPc := 19, catchType := 21 }) [{ startPc := 0, endPc := 12, handlerPc := 23, catchType := 23 }, { startPc := 0, endPc := 12, handlerPc := 27, catchType := 13 }] htab (pass_cons ⟨by decide, "java/lang/IndexOutOfBoundsException", List.mem_of_getElem? (i := 1) rfl, List.mem_of_getElem? (i := 2) rfl, by decide⟩ (pass_nil)) (by decide) (by decide) (List.mem_of_getElem? (i := 2) rfl) (fun q9 => ?_)
      refine V_astore X [(5, .ref q9), (0, .ref (ga g (0))), (1, .int (iN (a))), (2, .int (iN (len))), (3, .int (iN (lim))), (4, .ref (ga g (110)))] dL_stretch_19 (by decide) rfl ?_
      refine V_iconst X dL_stretch_21 ?_
      exact V_iretX X hr rfl ⟨by decide, by decide⟩ (by exact Or.inr (Or.inr (Or.inl ⟨rfl, hc, hpr⟩))) dL_stretch_22 (by decide) (by decide)
    · skip
      subst hE
      refine VX_catchW X (List.mem_of_getElem? (i := 3) rfl) [{ startPc := 0, endPc := 12, handlerPc := 15, catchType := 19 }, { startPc := 0, endPc := 12, handlerPc := 19, catchType := 21 }] ({ startPc := 0, endPc := 12, handlerPc := 23, catchType := 23 }) [{ startPc := 0, endPc := 12, handlerPc := 27, catchType := 13 }] htab (pass_cons ⟨by decide, "java/lang/IndexOutOfBoundsException", List.mem_of_getElem? (i := 1) rfl, List.mem_of_getElem? (i := 2) rfl, by decide⟩ (pass_cons ⟨by decide, "java/lang/IllegalArgumentException", List.mem_of_getElem? (i := 2) rfl, List.mem_of_getElem? (i := 1) rfl, by decide⟩ (pass_nil))) (by decide) (by decide) (List.mem_of_getElem? (i := 3) rfl) (fun q9 => ?_)
      refine V_astore X [(5, .ref q9), (0, .ref (ga g (0))), (1, .int (iN (a))), (2, .int (iN (len))), (3, .int (iN (lim))), (4, .ref (ga g (110)))] dL_stretch_23 (by decide) rfl ?_
      refine V_iconst X dL_stretch_25 ?_
      exact V_iretX X hr rfl ⟨by decide, by decide⟩ (by exact Or.inr (Or.inr (Or.inr (Or.inl ⟨rfl, hc, hpr⟩)))) dL_stretch_26 (by decide) (by decide)
    · skip
      subst hE
      refine VX_catchW X (List.mem_of_getElem? (i := 0) rfl) [{ startPc := 0, endPc := 12, handlerPc := 15, catchType := 19 }, { startPc := 0, endPc := 12, handlerPc := 19, catchType := 21 }, { startPc := 0, endPc := 12, handlerPc := 23, catchType := 23 }] ({ startPc := 0, endPc := 12, handlerPc := 27, catchType := 13 }) [] htab (pass_cons ⟨by decide, "java/lang/IndexOutOfBoundsException", List.mem_of_getElem? (i := 1) rfl, List.mem_of_getElem? (i := 2) rfl, by decide⟩ (pass_cons ⟨by decide, "java/lang/IllegalArgumentException", List.mem_of_getElem? (i := 2) rfl, List.mem_of_getElem? (i := 1) rfl, by decide⟩ (pass_cons ⟨by decide, "java/lang/UnsupportedOperationException", List.mem_of_getElem? (i := 3) rfl, List.mem_of_getElem? (i := 3) rfl, by decide⟩ (pass_nil)))) (by decide) (by decide) (List.mem_of_getElem? (i := 4) rfl) (fun q9 => ?_)
      refine V_astore X [(5, .ref q9), (0, .ref (ga g (0))), (1, .int (iN (a))), (2, .int (iN (len))), (3, .int (iN (lim))), (4, .ref (ga g (110)))] dL_stretch_27 (by decide) rfl ?_
      refine V_iconst X dL_stretch_29 ?_
      exact V_iretX X hr rfl ⟨by decide, by decide⟩ (by exact Or.inr (Or.inr (Or.inr (Or.inr (⟨rfl, hc, hpr⟩))))) dL_stretch_30 (by decide) (by decide)
  · skip
    refine V_i2l X z1r dL_stretch_10 ?_
    refine V_lastore X dL_stretch_11 ?_
    refine V_goto X 31 dL_stretch_12 (by decide) ?_
    refine V_iconst X dL_stretch_31 ?_
    exact V_iretX X hr rfl ⟨by decide, by decide⟩ (by exact Or.inl ⟨rfl, z1, u2, hp3, rfl⟩) dL_stretch_32 (by decide) (by decide)
set_option maxRecDepth 100000 in
set_option maxHeartbeats 4000000 in
theorem m_L_car (g : Geo) (l : Launch) (hl9 : l.stackTraces = false) (σ : St) (hR : RG σ) (a b d : Int) (ha : R32 a) (hb : R32 b) (hd : R32 d) (c0 : Nat) (hc0 : σ.1 0 3 = (c0 : Int)) : vx_Met l yL_car wsL_car ({ frames := 7, cells := 1, slots := 6, locals := 114 }) (va_Pc [.ref (ga g (0)), .int (iN (a)), .int (iN (b)), .int (iN (d)), .ref (ga g (110))] (World g σ)) (QI g (fun z u => (z = 0 ∧ ∃ v u1, ((fun z u => ((1 ≤ a ∧ a ≤ 9) ∧ (1 ≤ b ∧ b ≤ 4) ∧ 0 ≤ d ∧ d ≤ 3) ∧ c0 < 4 ∧ z = σ.1 0 3 ∧ u = carF σ c0 a b d) v u1) ∧ u = (u1.1, v, u1.2.2)) ∨ (z = 1 ∧ (¬ ((1 ≤ a ∧ a ≤ 9) ∧ (1 ≤ b ∧ b ≤ 4) ∧ 0 ≤ d ∧ d ≤ 3)) ∧ u = σ) ∨ (z = 2 ∧ (((1 ≤ a ∧ a ≤ 9) ∧ (1 ≤ b ∧ b ≤ 4) ∧ 0 ≤ d ∧ d ≤ 3) ∧ ¬ c0 < 4) ∧ u = σ))) (XT g (fun E u => False)) 1 6 (gA g) := by
  refine V_metH hl9 (by decide) rfl (Nat.le_of_ble_eq_true rfl) ?_
  intro p9 e9 s9 m9 b9 t9 c9 X htab hr
  refine V_lv (lv' := [(0, .ref (ga g (0))), (1, .int (iN (a))), (2, .int (iN (b))), (3, .int (iN (d))), (4, .ref (ga g (110)))]) rfl ?_
  refine V_aload X 4 rfl dL_car_0 ?_
  refine V_iconst X dL_car_2 ?_
  refine V_aload_n X 0 rfl dL_car_3 rfl ?_
  refine V_iload_n X 1 rfl dL_car_4 rfl ?_
  refine V_iload_n X 2 rfl dL_car_5 rfl ?_
  refine V_iload_n X 3 rfl dL_car_6 rfl ?_
  refine V_callV_Ix X (na := 3) (ci := 6) (b0 := 0) (by decide) (rfl) (by decide) rfl (m_X6_car g l hl9 σ hR a b d ha hb hd c0 hc0) gL_car_X6_car rfl rfl rfl (by decide +kernel) ⟨Nat.le_of_ble_eq_true rfl, Nat.le_of_ble_eq_true rfl⟩ rfl rfl (Nat.le_of_ble_eq_true rfl) ⟨Nat.le_of_ble_eq_true rfl, Nat.le_of_ble_eq_true rfl⟩ dL_car_7 (fun E u hp => ?_) (fun z1 u2 z1r hp3 => ?_)
  · skip
    obtain ⟨hpe, hpr⟩ := hp
    rcases hpe with ⟨hE, hc⟩ | ⟨hE, hc⟩
    · skip
      subst hE
      refine VX_catchW X (List.mem_of_getElem? (i := 1) rfl) [] ({ startPc := 0, endPc := 12, handlerPc := 15, catchType := 21 }) [{ startPc := 0, endPc := 12, handlerPc := 19, catchType := 13 }] htab (pass_nil) (by decide) (by decide) (List.mem_of_getElem? (i := 1) rfl) (fun q9 => ?_)
      refine V_astore X [(5, .ref q9), (0, .ref (ga g (0))), (1, .int (iN (a))), (2, .int (iN (b))), (3, .int (iN (d))), (4, .ref (ga g (110)))] dL_car_15 (by decide) rfl ?_
      refine V_iconst X dL_car_17 ?_
      exact V_iretX X hr rfl ⟨by decide, by decide⟩ (by exact Or.inr (Or.inl ⟨rfl, hc, hpr⟩)) dL_car_18 (by decide) (by decide)
    · skip
      subst hE
      refine VX_catchW X (List.mem_of_getElem? (i := 0) rfl) [{ startPc := 0, endPc := 12, handlerPc := 15, catchType := 21 }] ({ startPc := 0, endPc := 12, handlerPc := 19, catchType := 13 }) [] htab (pass_cons ⟨by decide, "java/lang/IllegalArgumentException", List.mem_of_getElem? (i := 1) rfl, List.mem_of_getElem? (i := 1) rfl, by decide⟩ (pass_nil)) (by decide) (by decide) (List.mem_of_getElem? (i := 2) rfl) (fun q9 => ?_)
      refine V_astore X [(5, .ref q9), (0, .ref (ga g (0))), (1, .int (iN (a))), (2, .int (iN (b))), (3, .int (iN (d))), (4, .ref (ga g (110)))] dL_car_19 (by decide) rfl ?_
      refine V_iconst X dL_car_21 ?_
      exact V_iretX X hr rfl ⟨by decide, by decide⟩ (by exact Or.inr (Or.inr (⟨rfl, hc, hpr⟩))) dL_car_22 (by decide) (by decide)
  · skip
    refine V_i2l X z1r dL_car_10 ?_
    refine V_lastore X dL_car_11 ?_
    refine V_goto X 23 dL_car_12 (by decide) ?_
    refine V_iconst X dL_car_23 ?_
    exact V_iretX X hr rfl ⟨by decide, by decide⟩ (by exact Or.inl ⟨rfl, z1, u2, hp3, rfl⟩) dL_car_24 (by decide) (by decide)
set_option maxRecDepth 100000 in
set_option maxHeartbeats 4000000 in
theorem m_L_lengthOf (g : Geo) (l : Launch) (hl9 : l.stackTraces = false) (σ : St) (hR : RG σ) (a : Int) (ha : R32 a) (hT : σ.1 0 1 ≤ 4) : vx_Met l yL_lengthOf wsL_lengthOf ({ frames := 8, cells := 1, slots := 6, locals := 132 }) (va_Pc [.ref (ga g (0)), .int (iN (a)), .ref (ga g (110))] (World g σ)) (QI g (fun z u => (z = 0 ∧ ∃ v u1, ((fun z u => 0 ≤ a ∧ a < σ.1 0 1 ∧ z = σ.1 (73 + 3 * a.toNat) 3 ∧ u = σ) v u1) ∧ u = (u1.1, v, u1.2.2)) ∨ (z = 1 ∧ (¬ (0 ≤ a ∧ a < σ.1 0 1) ∧ u = σ)))) (XT g (fun E u => False)) 1 6 (gA g) := by
  refine V_metH hl9 (by decide) rfl (Nat.le_of_ble_eq_true rfl) ?_
  intro p9 e9 s9 m9 b9 t9 c9 X htab hr
  refine V_lv (lv' := [(0, .ref (ga g (0))), (1, .int (iN (a))), (2, .ref (ga g (110)))]) rfl ?_
  refine V_aload_n X 2 rfl dL_lengthOf_0 rfl ?_
  refine V_iconst X dL_lengthOf_1 ?_
  refine V_aload_n X 0 rfl dL_lengthOf_2 rfl ?_
  refine V_iload_n X 1 rfl dL_lengthOf_3 rfl ?_
  refine V_callV_Ix X (na := 1) (ci := 6) (b0 := 0) (by decide) (rfl) (by decide) rfl (m_X6_lengthOf g l hl9 σ hR a ha hT) gL_lengthOf_X6_lengthOf rfl rfl rfl (by decide +kernel) ⟨Nat.le_of_ble_eq_true rfl, Nat.le_of_ble_eq_true rfl⟩ rfl rfl (Nat.le_of_ble_eq_true rfl) ⟨Nat.le_of_ble_eq_true rfl, Nat.le_of_ble_eq_true rfl⟩ dL_lengthOf_4 (fun E u hp => ?_) (fun z1 u2 z1r hp3 => ?_)
  · skip
    obtain ⟨hE, hc⟩ := hp
    subst hE
    refine VX_catchW X (List.mem_of_getElem? (i := 2) rfl) [] ({ startPc := 0, endPc := 9, handlerPc := 12, catchType := 19 }) [] htab (pass_nil) (by decide) (by decide) (List.mem_of_getElem? (i := 1) rfl) (fun q9 => ?_)
    refine V_astore_n X [(3, .ref q9), (0, .ref (ga g (0))), (1, .int (iN (a))), (2, .ref (ga g (110)))] dL_lengthOf_12 rfl (by decide) rfl ?_
    refine V_iconst X dL_lengthOf_13 ?_
    exact V_iretX X hr rfl ⟨by decide, by decide⟩ (by exact Or.inr (⟨rfl, hc⟩)) dL_lengthOf_14 (by decide) (by decide)
  · skip
    refine V_i2l X z1r dL_lengthOf_7 ?_
    refine V_lastore X dL_lengthOf_8 ?_
    refine V_goto X 15 dL_lengthOf_9 (by decide) ?_
    refine V_iconst X dL_lengthOf_15 ?_
    exact V_iretX X hr rfl ⟨by decide, by decide⟩ (by exact Or.inl ⟨rfl, z1, u2, hp3, rfl⟩) dL_lengthOf_16 (by decide) (by decide)
set_option maxRecDepth 100000 in
set_option maxHeartbeats 4000000 in
theorem m_L_limitAt (g : Geo) (l : Launch) (hl9 : l.stackTraces = false) (σ : St) (hR : RG σ) (a p : Int) (ha : R32 a) (hp0 : R32 p) (hT4 : σ.1 0 1 ≤ 4) (hTk : ∀ t, t < 4 → 0 ≤ σ.1 (73 + 3 * t) 2 ∧ σ.1 (73 + 3 * t) 2 ≤ 12) : vx_Met l yL_limitAt wsL_limitAt ({ frames := 8, cells := 2, slots := 12, locals := 134 }) (va_Pc [.ref (ga g (0)), .int (iN (a)), .int (iN (p)), .ref (ga g (110))] (World g σ)) (QI g (fun z u => (z = 0 ∧ ∃ v u1, ((fun z u => (0 ≤ a ∧ a < σ.1 0 1) ∧ (0 ≤ p ∧ p < σ.1 (73 + 3 * a.toNat) 3) ∧ z = limG (σ.1 (73 + 3 * a.toNat + 1)) (σ.1 (73 + 3 * a.toNat + 2)) p 0 (σ.1 (73 + 3 * a.toNat) 2).toNat ∧ u = σ) v u1) ∧ u = (u1.1, v, u1.2.2)) ∨ (z = 1 ∧ (¬ (0 ≤ a ∧ a < σ.1 0 1)) ∧ u = σ) ∨ (z = 2 ∧ ((0 ≤ a ∧ a < σ.1 0 1) ∧ ¬ (0 ≤ p ∧ p < σ.1 (73 + 3 * a.toNat) 3)) ∧ u = σ))) (XT g (fun E u => False)) 2 12 (gA g) := by
  refine V_metH hl9 (by decide) rfl (Nat.le_of_ble_eq_true rfl) ?_
  intro p9 e9 s9 m9 b9 t9 c9 X htab hr
  refine V_lv (lv' := [(0, .ref (ga g (0))), (1, .int (iN (a))), (2, .int (iN (p))), (3, .ref (ga g (110)))]) rfl ?_
  refine V_aload_n X 3 rfl dL_limitAt_0 rfl ?_
  refine V_iconst X dL_limitAt_1 ?_
  refine V_aload_n X 0 rfl dL_limitAt_2 rfl ?_
  refine V_iload_n X 1 rfl dL_limitAt_3 rfl ?_
  refine V_iload_n X 2 rfl dL_limitAt_4 rfl ?_
  refine V_callV_Ix X (na := 2) (ci := 6) (b0 := 0) (by decide) (rfl) (by decide) rfl (m_X6_limitAt g l hl9 σ hR a p ha hp0 hT4 hTk) gL_limitAt_X6_limitAt rfl rfl rfl (by decide +kernel) ⟨Nat.le_of_ble_eq_true rfl, Nat.le_of_ble_eq_true rfl⟩ rfl rfl (Nat.le_of_ble_eq_true rfl) ⟨Nat.le_of_ble_eq_true rfl, Nat.le_of_ble_eq_true rfl⟩ dL_limitAt_5 (fun E u hp => ?_) (fun z1 u2 z1r hp3 => ?_)
  · skip
    obtain ⟨hpe, hpr⟩ := hp
    rcases hpe with ⟨hE, hc⟩ | ⟨hE, hc⟩
    · skip
      subst hE
      refine VX_catchW X (List.mem_of_getElem? (i := 2) rfl) [] ({ startPc := 0, endPc := 10, handlerPc := 13, catchType := 19 }) [{ startPc := 0, endPc := 10, handlerPc := 17, catchType := 36 }] htab (pass_nil) (by decide) (by decide) (List.mem_of_getElem? (i := 1) rfl) (fun q9 => ?_)
      refine V_astore X [(4, .ref q9), (0, .ref (ga g (0))), (1, .int (iN (a))), (2, .int (iN (p))), (3, .ref (ga g (110)))] dL_limitAt_13 (by decide) rfl ?_
      refine V_iconst X dL_limitAt_15 ?_
      exact V_iretX X hr rfl ⟨by decide, by decide⟩ (by exact Or.inr (Or.inl ⟨rfl, hc, hpr⟩)) dL_limitAt_16 (by decide) (by decide)
    · skip
      subst hE
      refine VX_catchW X (List.mem_of_getElem? (i := 4) rfl) [{ startPc := 0, endPc := 10, handlerPc := 13, catchType := 19 }] ({ startPc := 0, endPc := 10, handlerPc := 17, catchType := 36 }) [] htab (pass_cons ⟨by decide, "java/lang/IndexOutOfBoundsException", List.mem_of_getElem? (i := 1) rfl, List.mem_of_getElem? (i := 2) rfl, by decide⟩ (pass_nil)) (by decide) (by decide) (List.mem_of_getElem? (i := 2) rfl) (fun q9 => ?_)
      refine V_astore X [(4, .ref q9), (0, .ref (ga g (0))), (1, .int (iN (a))), (2, .int (iN (p))), (3, .ref (ga g (110)))] dL_limitAt_17 (by decide) rfl ?_
      refine V_iconst X dL_limitAt_19 ?_
      exact V_iretX X hr rfl ⟨by decide, by decide⟩ (by exact Or.inr (Or.inr (⟨rfl, hc, hpr⟩))) dL_limitAt_20 (by decide) (by decide)
  · skip
    refine V_i2l X z1r dL_limitAt_8 ?_
    refine V_lastore X dL_limitAt_9 ?_
    refine V_goto X 21 dL_limitAt_10 (by decide) ?_
    refine V_iconst X dL_limitAt_21 ?_
    exact V_iretX X hr rfl ⟨by decide, by decide⟩ (by exact Or.inl ⟨rfl, z1, u2, hp3, rfl⟩) dL_limitAt_22 (by decide) (by decide)
set_option maxRecDepth 100000 in
set_option maxHeartbeats 4000000 in
theorem m_L_type (g : Geo) (l : Launch) (hl9 : l.stackTraces = false) (σ : St) (hR : RG σ) (a k : Int) (ha : R32 a) (hac : 0 ≤ a ∧ a < 65536) (hk : R32 k) (ty : Nat) (hty : σ.1 0 5 = (ty : Int)) (hty60 : ty ≤ 60) : vx_Met l yL_type wsL_type ({ frames := 7, cells := 1, slots := 6, locals := 115 }) (va_Pc [.ref (ga g (0)), .int (iN (a)), .int (iN (k)), .ref (ga g (110))] (World g σ)) (QI g (fun z u => (z = 0 ∧ ∃ v u1, ((fun z u => ((a = 43 ∨ a = 45 ∨ a = 61) ∧ 1 ≤ k ∧ k ≤ 20) ∧ ty + k.toNat ≤ 60 ∧ z = ((ty + k.toNat : Nat) : Int) ∧ u = sw (tyS σ a ty (ty + k.toNat)) 0 5 ((ty + k.toNat : Nat) : Int)) v u1) ∧ u = (u1.1, v, u1.2.2)) ∨ (z = 1 ∧ (¬ ((a = 43 ∨ a = 45 ∨ a = 61) ∧ 1 ≤ k ∧ k ≤ 20)) ∧ u = σ) ∨ (z = 2 ∧ (((a = 43 ∨ a = 45 ∨ a = 61) ∧ 1 ≤ k ∧ k ≤ 20) ∧ ¬ ty + k.toNat ≤ 60) ∧ u = σ))) (XT g (fun E u => False)) 1 6 (gA g) := by
  refine V_metH hl9 (by decide) rfl (Nat.le_of_ble_eq_true rfl) ?_
  intro p9 e9 s9 m9 b9 t9 c9 X htab hr
  refine V_lv (lv' := [(0, .ref (ga g (0))), (1, .int (iN (a))), (2, .int (iN (k))), (3, .ref (ga g (110)))]) rfl ?_
  refine V_aload_n X 3 rfl dL_type_0 rfl ?_
  refine V_iconst X dL_type_1 ?_
  refine V_aload_n X 0 rfl dL_type_2 rfl ?_
  refine V_iload_n X 1 rfl dL_type_3 rfl ?_
  refine V_iload_n X 2 rfl dL_type_4 rfl ?_
  refine V_callV_Ix X (na := 2) (ci := 6) (b0 := 0) (by decide) (rfl) (by decide) rfl (m_X6_type g l hl9 σ hR a k ha hac hk ty hty hty60) gL_type_X6_type rfl rfl rfl (by decide +kernel) ⟨Nat.le_of_ble_eq_true rfl, Nat.le_of_ble_eq_true rfl⟩ rfl rfl (Nat.le_of_ble_eq_true rfl) ⟨Nat.le_of_ble_eq_true rfl, Nat.le_of_ble_eq_true rfl⟩ dL_type_5 (fun E u hp => ?_) (fun z1 u2 z1r hp3 => ?_)
  · skip
    obtain ⟨hpe, hpr⟩ := hp
    rcases hpe with ⟨hE, hc⟩ | ⟨hE, hc⟩
    · skip
      subst hE
      refine VX_catchW X (List.mem_of_getElem? (i := 1) rfl) [] ({ startPc := 0, endPc := 10, handlerPc := 13, catchType := 21 }) [{ startPc := 0, endPc := 10, handlerPc := 17, catchType := 13 }] htab (pass_nil) (by decide) (by decide) (List.mem_of_getElem? (i := 1) rfl) (fun q9 => ?_)
      refine V_astore X [(4, .ref q9), (0, .ref (ga g (0))), (1, .int (iN (a))), (2, .int (iN (k))), (3, .ref (ga g (110)))] dL_type_13 (by decide) rfl ?_
      refine V_iconst X dL_type_15 ?_
      exact V_iretX X hr rfl ⟨by decide, by decide⟩ (by exact Or.inr (Or.inl ⟨rfl, hc, hpr⟩)) dL_type_16 (by decide) (by decide)
    · skip
      subst hE
      refine VX_catchW X (List.mem_of_getElem? (i := 0) rfl) [{ startPc := 0, endPc := 10, handlerPc := 13, catchType := 21 }] ({ startPc := 0, endPc := 10, handlerPc := 17, catchType := 13 }) [] htab (pass_cons ⟨by decide, "java/lang/IllegalArgumentException", List.mem_of_getElem? (i := 1) rfl, List.mem_of_getElem? (i := 1) rfl, by decide⟩ (pass_nil)) (by decide) (by decide) (List.mem_of_getElem? (i := 2) rfl) (fun q9 => ?_)
      refine V_astore X [(4, .ref q9), (0, .ref (ga g (0))), (1, .int (iN (a))), (2, .int (iN (k))), (3, .ref (ga g (110)))] dL_type_17 (by decide) rfl ?_
      refine V_iconst X dL_type_19 ?_
      exact V_iretX X hr rfl ⟨by decide, by decide⟩ (by exact Or.inr (Or.inr (⟨rfl, hc, hpr⟩))) dL_type_20 (by decide) (by decide)
  · skip
    refine V_i2l X z1r dL_type_8 ?_
    refine V_lastore X dL_type_9 ?_
    refine V_goto X 21 dL_type_10 (by decide) ?_
    refine V_iconst X dL_type_21 ?_
    exact V_iretX X hr rfl ⟨by decide, by decide⟩ (by exact Or.inl ⟨rfl, z1, u2, hp3, rfl⟩) dL_type_22 (by decide) (by decide)
set_option maxRecDepth 100000 in
set_option maxHeartbeats 4000000 in
theorem m_L_drive (g : Geo) (l : Launch) (hl9 : l.stackTraces = false) (σ : St) (hR : RG σ) (dr tr ca gh : Int) (hdr : R32 dr) (htr : R32 tr) (hca : R32 ca) (hgh : R32 gh) (n : Nat) (hLB : LB σ n) (hTK : TK σ) (hT4 : σ.1 0 1 ≤ 4) (hC4 : σ.1 0 3 ≤ 4) (h10 : σ.1 67 1 ≤ 10) (ty : Nat) (hty : σ.1 0 5 = (ty : Int)) (hty60 : ty ≤ 60) (hch : ∀ i, i < 60 → 0 ≤ σ.1 3 i ∧ σ.1 3 i < 65536) : vx_Met l yL_drive wsL_drive ({ frames := 8, cells := 5, slots := 30, locals := 139 }) (va_Pc [.ref (ga g (0)), .int (iN (dr)), .int (iN (tr)), .int (iN (ca)), .int (iN (gh)), .ref (ga g (110))] (World g σ)) (QI g (fun z u => (z = 0 ∧ ∃ v u1, ((fun z u => ((0 ≤ dr ∧ dr < 6) ∧ (0 ≤ tr ∧ tr < σ.1 0 1) ∧ 0 ≤ ca ∧ ca < σ.1 0 3) ∧ (gh = -1 ∨ ((0 ≤ gh ∧ gh < σ.1 5 1) ∧ σ.1 (7 + 2 * gh.toNat) 4 = tr ∧ ¬ σ.1 (7 + 2 * gh.toNat) 9 = 0)) ∧ canD σ tr.toNat ca.toNat ty ∧ n < 30 ∧ z = (n : Int) ∧ ∃ v, FlR σ tr.toNat ca.toNat (σ.1 3) ty v ∧ u = drvF v n dr tr ca gh) v u1) ∧ u = (u1.1, v, u1.2.2)) ∨ (z = 1 ∧ (¬ ((0 ≤ dr ∧ dr < 6) ∧ (0 ≤ tr ∧ tr < σ.1 0 1) ∧ 0 ≤ ca ∧ ca < σ.1 0 3)) ∧ FrR σ u) ∨ (z = 2 ∧ (((0 ≤ dr ∧ dr < 6) ∧ (0 ≤ tr ∧ tr < σ.1 0 1) ∧ 0 ≤ ca ∧ ca < σ.1 0 3) ∧ ¬ (gh = -1 ∨ ((0 ≤ gh ∧ gh < σ.1 5 1) ∧ σ.1 (7 + 2 * gh.toNat) 4 = tr ∧ ¬ σ.1 (7 + 2 * gh.toNat) 9 = 0))) ∧ FrR σ u) ∨ (z = 3 ∧ (((0 ≤ dr ∧ dr < 6) ∧ (0 ≤ tr ∧ tr < σ.1 0 1) ∧ 0 ≤ ca ∧ ca < σ.1 0 3) ∧ (gh = -1 ∨ ((0 ≤ gh ∧ gh < σ.1 5 1) ∧ σ.1 (7 + 2 * gh.toNat) 4 = tr ∧ ¬ σ.1 (7 + 2 * gh.toNat) 9 = 0)) ∧ ¬ canD σ tr.toNat ca.toNat ty) ∧ FrR σ u) ∨ (z = 4 ∧ (((0 ≤ dr ∧ dr < 6) ∧ (0 ≤ tr ∧ tr < σ.1 0 1) ∧ 0 ≤ ca ∧ ca < σ.1 0 3) ∧ (gh = -1 ∨ ((0 ≤ gh ∧ gh < σ.1 5 1) ∧ σ.1 (7 + 2 * gh.toNat) 4 = tr ∧ ¬ σ.1 (7 + 2 * gh.toNat) 9 = 0)) ∧ canD σ tr.toNat ca.toNat ty ∧ ¬ n < 30) ∧ FrR σ u))) (XT g (fun E u => False)) 5 30 (gA g) := by
  refine V_metH hl9 (by decide) rfl (Nat.le_of_ble_eq_true rfl) ?_
  intro p9 e9 s9 m9 b9 t9 c9 X htab hr
  refine V_lv (lv' := [(0, .ref (ga g (0))), (1, .int (iN (dr))), (2, .int (iN (tr))), (3, .int (iN (ca))), (4, .int (iN (gh))), (5, .ref (ga g (110)))]) rfl ?_
  refine V_aload X 5 rfl dL_drive_0 ?_
  refine V_iconst X dL_drive_2 ?_
  refine V_aload_n X 0 rfl dL_drive_3 rfl ?_
  refine V_iload_n X 1 rfl dL_drive_4 rfl ?_
  refine V_iload_n X 2 rfl dL_drive_5 rfl ?_
  refine V_iload_n X 3 rfl dL_drive_6 rfl ?_
  refine V_iload X 4 rfl dL_drive_7 ?_
  refine V_callV_Ix X (na := 4) (ci := 6) (b0 := 0) (by decide) (rfl) (by decide) rfl (m_X6_drive g l hl9 σ hR dr tr ca gh hdr htr hca hgh n hLB hTK hT4 hC4 h10 ty hty hty60 hch) gL_drive_X6_drive rfl rfl rfl (by decide +kernel) ⟨Nat.le_of_ble_eq_true rfl, Nat.le_of_ble_eq_true rfl⟩ rfl rfl (Nat.le_of_ble_eq_true rfl) ⟨Nat.le_of_ble_eq_true rfl, Nat.le_of_ble_eq_true rfl⟩ dL_drive_9 (fun E u hp => ?_) (fun z1 u2 z1r hp3 => ?_)
  · skip
    obtain ⟨hpe, hpr⟩ := hp
    rcases hpe with ⟨hE, hc⟩ | ⟨hE, hc⟩ | ⟨hE, hc⟩ | ⟨hE, hc⟩
    · skip
      subst hE
      refine VX_catchW X (List.mem_of_getElem? (i := 2) rfl) [] ({ startPc := 0, endPc := 14, handlerPc := 17, catchType := 19 }) [{ startPc := 0, endPc := 14, handlerPc := 21, catchType := 36 }, { startPc := 0, endPc := 14, handlerPc := 25, catchType := 23 }, { startPc := 0, endPc := 14, handlerPc := 29, catchType := 13 }] htab (pass_nil) (by decide) (by decide) (List.mem_of_getElem? (i := 1) rfl) (fun q9 => ?_)
      refine V_astore X [(6, .ref q9), (0, .ref (ga g (0))), (1, .int (iN (dr))), (2, .int (iN (tr))), (3, .int (iN (ca))), (4, .int (iN (gh))), (5, .ref (ga g (110)))] dL_drive_17 (by decide) rfl ?_
      refine V_iconst X dL_drive_19 ?_
      exact V_iretX X hr rfl ⟨by decide, by decide⟩ (by exact Or.inr (Or.inl ⟨rfl, hc, hpr⟩)) dL_drive_20 (by decide) (by decide)
    · skip
      subst hE
      refine VX_catchW X (List.mem_of_getElem? (i := 4) rfl) [{ startPc := 0, endPc := 14, handlerPc := 17, catchType := 19 }] ({ startPc := 0, endPc := 14, handlerPc := 21, catchType := 36 }) [{ startPc := 0, endPc := 14, handlerPc := 25, catchType := 23 }, { startPc := 0, endPc := 14, handlerPc := 29, catchType := 13 }] htab (pass_cons ⟨by decide, "java/lang/IndexOutOfBoundsException", List.mem_of_getElem? (i := 1) rfl, List.mem_of_getElem? (i := 2) rfl, by decide⟩ (pass_nil)) (by decide) (by decide) (List.mem_of_getElem? (i := 2) rfl) (fun q9 => ?_)
      refine V_astore X [(6, .ref q9), (0, .ref (ga g (0))), (1, .int (iN (dr))), (2, .int (iN (tr))), (3, .int (iN (ca))), (4, .int (iN (gh))), (5, .ref (ga g (110)))] dL_drive_21 (by decide) rfl ?_
      refine V_iconst X dL_drive_23 ?_
      exact V_iretX X hr rfl ⟨by decide, by decide⟩ (by exact Or.inr (Or.inr (Or.inl ⟨rfl, hc, hpr⟩))) dL_drive_24 (by decide) (by decide)
    · skip
      subst hE
      refine VX_catchW X (List.mem_of_getElem? (i := 3) rfl) [{ startPc := 0, endPc := 14, handlerPc := 17, catchType := 19 }, { startPc := 0, endPc := 14, handlerPc := 21, catchType := 36 }] ({ startPc := 0, endPc := 14, handlerPc := 25, catchType := 23 }) [{ startPc := 0, endPc := 14, handlerPc := 29, catchType := 13 }] htab (pass_cons ⟨by decide, "java/lang/IndexOutOfBoundsException", List.mem_of_getElem? (i := 1) rfl, List.mem_of_getElem? (i := 2) rfl, by decide⟩ (pass_cons ⟨by decide, "java/util/NoSuchElementException", List.mem_of_getElem? (i := 2) rfl, List.mem_of_getElem? (i := 4) rfl, by decide⟩ (pass_nil))) (by decide) (by decide) (List.mem_of_getElem? (i := 3) rfl) (fun q9 => ?_)
      refine V_astore X [(6, .ref q9), (0, .ref (ga g (0))), (1, .int (iN (dr))), (2, .int (iN (tr))), (3, .int (iN (ca))), (4, .int (iN (gh))), (5, .ref (ga g (110)))] dL_drive_25 (by decide) rfl ?_
      refine V_iconst X dL_drive_27 ?_
      exact V_iretX X hr rfl ⟨by decide, by decide⟩ (by exact Or.inr (Or.inr (Or.inr (Or.inl ⟨rfl, hc, hpr⟩)))) dL_drive_28 (by decide) (by decide)
    · skip
      subst hE
      refine VX_catchW X (List.mem_of_getElem? (i := 0) rfl) [{ startPc := 0, endPc := 14, handlerPc := 17, catchType := 19 }, { startPc := 0, endPc := 14, handlerPc := 21, catchType := 36 }, { startPc := 0, endPc := 14, handlerPc := 25, catchType := 23 }] ({ startPc := 0, endPc := 14, handlerPc := 29, catchType := 13 }) [] htab (pass_cons ⟨by decide, "java/lang/IndexOutOfBoundsException", List.mem_of_getElem? (i := 1) rfl, List.mem_of_getElem? (i := 2) rfl, by decide⟩ (pass_cons ⟨by decide, "java/util/NoSuchElementException", List.mem_of_getElem? (i := 2) rfl, List.mem_of_getElem? (i := 4) rfl, by decide⟩ (pass_cons ⟨by decide, "java/lang/UnsupportedOperationException", List.mem_of_getElem? (i := 3) rfl, List.mem_of_getElem? (i := 3) rfl, by decide⟩ (pass_nil)))) (by decide) (by decide) (List.mem_of_getElem? (i := 4) rfl) (fun q9 => ?_)
      refine V_astore X [(6, .ref q9), (0, .ref (ga g (0))), (1, .int (iN (dr))), (2, .int (iN (tr))), (3, .int (iN (ca))), (4, .int (iN (gh))), (5, .ref (ga g (110)))] dL_drive_29 (by decide) rfl ?_
      refine V_iconst X dL_drive_31 ?_
      exact V_iretX X hr rfl ⟨by decide, by decide⟩ (by exact Or.inr (Or.inr (Or.inr (Or.inr (⟨rfl, hc, hpr⟩))))) dL_drive_32 (by decide) (by decide)
  · skip
    refine V_i2l X z1r dL_drive_12 ?_
    refine V_lastore X dL_drive_13 ?_
    refine V_goto X 33 dL_drive_14 (by decide) ?_
    refine V_iconst X dL_drive_33 ?_
    exact V_iretX X hr rfl ⟨by decide, by decide⟩ (by exact Or.inl ⟨rfl, z1, u2, hp3, rfl⟩) dL_drive_34 (by decide) (by decide)
set_option maxRecDepth 100000 in
set_option maxHeartbeats 4000000 in
theorem m_L_tryOut (g : Geo) (l : Launch) (hl9 : l.stackTraces = false) (σ : St) (hR : RG σ) (a b : Int) (ha : R32 a) (hb0 : R32 b) (hTK : TK σ) (hT4 : σ.1 0 1 ≤ 4) (hC4 : σ.1 0 3 ≤ 4) (ty : Nat) (hty : σ.1 0 5 = (ty : Int)) (hty60 : ty ≤ 60) : vx_Met l yL_tryOut wsL_tryOut ({ frames := 8, cells := 3, slots := 18, locals := 134 }) (va_Pc [.ref (ga g (0)), .int (iN (a)), .int (iN (b)), .ref (ga g (110))] (World g σ)) (QI g (fun z u => (z = 0 ∧ ∃ v u1, ((fun z u => ((0 ≤ a ∧ a < σ.1 0 1) ∧ 0 ≤ b ∧ b < σ.1 0 3) ∧ canD σ a.toNat b.toNat ty ∧ z = tmF (σ.1 (73 + 3 * a.toNat) 3) (rdF σ a.toNat b.toNat (σ.1 3) ty) ∧ FrR σ u) v u1) ∧ u = (u1.1, v, u1.2.2)) ∨ (z = 1 ∧ (¬ ((0 ≤ a ∧ a < σ.1 0 1) ∧ 0 ≤ b ∧ b < σ.1 0 3)) ∧ FrR σ u) ∨ (z = 2 ∧ (((0 ≤ a ∧ a < σ.1 0 1) ∧ 0 ≤ b ∧ b < σ.1 0 3) ∧ ¬ canD σ a.toNat b.toNat ty) ∧ FrR σ u))) (XT g (fun E u => False)) 3 18 (gA g) := by
  refine V_metH hl9 (by decide) rfl (Nat.le_of_ble_eq_true rfl) ?_
  intro p9 e9 s9 m9 b9 t9 c9 X htab hr
  refine V_lv (lv' := [(0, .ref (ga g (0))), (1, .int (iN (a))), (2, .int (iN (b))), (3, .ref (ga g (110)))]) rfl ?_
  refine V_aload_n X 3 rfl dL_tryOut_0 rfl ?_
  refine V_iconst X dL_tryOut_1 ?_
  refine V_aload_n X 0 rfl dL_tryOut_2 rfl ?_
  refine V_iload_n X 1 rfl dL_tryOut_3 rfl ?_
  refine V_iload_n X 2 rfl dL_tryOut_4 rfl ?_
  refine V_callV_Ix X (na := 2) (ci := 6) (b0 := 0) (by decide) (rfl) (by decide) rfl (m_X6_tryOut g l hl9 σ hR a b ha hb0 hTK hT4 hC4 ty hty hty60) gL_tryOut_X6_tryOut rfl rfl rfl (by decide +kernel) ⟨Nat.le_of_ble_eq_true rfl, Nat.le_of_ble_eq_true rfl⟩ rfl rfl (Nat.le_of_ble_eq_true rfl) ⟨Nat.le_of_ble_eq_true rfl, Nat.le_of_ble_eq_true rfl⟩ dL_tryOut_5 (fun E u hp => ?_) (fun z1 u2 z1r hp3 => ?_)
  · skip
    obtain ⟨hpe, hpr⟩ := hp
    rcases hpe with ⟨hE, hc⟩ | ⟨hE, hc⟩
    · skip
      subst hE
      refine VX_catchW X (List.mem_of_getElem? (i := 2) rfl) [] ({ startPc := 0, endPc := 10, handlerPc := 13, catchType := 19 }) [{ startPc := 0, endPc := 10, handlerPc := 17, catchType := 23 }] htab (pass_nil) (by decide) (by decide) (List.mem_of_getElem? (i := 1) rfl) (fun q9 => ?_)
      refine V_astore X [(4, .ref q9), (0, .ref (ga g (0))), (1, .int (iN (a))), (2, .int (iN (b))), (3, .ref (ga g (110)))] dL_tryOut_13 (by decide) rfl ?_
      refine V_iconst X dL_tryOut_15 ?_
      exact V_iretX X hr rfl ⟨by decide, by decide⟩ (by exact Or.inr (Or.inl ⟨rfl, hc, hpr⟩)) dL_tryOut_16 (by decide) (by decide)
    · skip
      subst hE
      refine VX_catchW X (List.mem_of_getElem? (i := 3) rfl) [{ startPc := 0, endPc := 10, handlerPc := 13, catchType := 19 }] ({ startPc := 0, endPc := 10, handlerPc := 17, catchType := 23 }) [] htab (pass_cons ⟨by decide, "java/lang/IndexOutOfBoundsException", List.mem_of_getElem? (i := 1) rfl, List.mem_of_getElem? (i := 2) rfl, by decide⟩ (pass_nil)) (by decide) (by decide) (List.mem_of_getElem? (i := 2) rfl) (fun q9 => ?_)
      refine V_astore X [(4, .ref q9), (0, .ref (ga g (0))), (1, .int (iN (a))), (2, .int (iN (b))), (3, .ref (ga g (110)))] dL_tryOut_17 (by decide) rfl ?_
      refine V_iconst X dL_tryOut_19 ?_
      exact V_iretX X hr rfl ⟨by decide, by decide⟩ (by exact Or.inr (Or.inr (⟨rfl, hc, hpr⟩))) dL_tryOut_20 (by decide) (by decide)
  · skip
    refine V_i2l X z1r dL_tryOut_8 ?_
    refine V_lastore X dL_tryOut_9 ?_
    refine V_goto X 21 dL_tryOut_10 (by decide) ?_
    refine V_iconst X dL_tryOut_21 ?_
    exact V_iretX X hr rfl ⟨by decide, by decide⟩ (by exact Or.inl ⟨rfl, z1, u2, hp3, rfl⟩) dL_tryOut_22 (by decide) (by decide)
set_option maxRecDepth 100000 in
set_option maxHeartbeats 4000000 in
theorem m_L_time (g : Geo) (l : Launch) (hl9 : l.stackTraces = false) (σ : St) (hR : RG σ) (a w : Int) (ha : R32 a) (hw : R32 w) (n : Nat) (hLB : LB σ n) : vx_Met l yL_time wsL_time ({ frames := 8, cells := 1, slots := 6, locals := 134 }) (va_Pc [.ref (ga g (0)), .int (iN (a)), .int (iN (w)), .ref (ga g (110))] (World g σ)) (QI g (fun z u => (z = 0 ∧ ∃ v u1, ((fun z u => 0 ≤ a ∧ a < σ.1 5 1 ∧ z = (if w = 0 then σ.1 (7 + 2 * a.toNat) 2 else cntC σ a.toNat) ∧ u = σ) v u1) ∧ u = (u1.1, v, u1.2.2)) ∨ (z = 1 ∧ (¬ (0 ≤ a ∧ a < σ.1 5 1) ∧ u = σ)))) (XT g (fun E u => False)) 1 6 (gA g) := by
  refine V_metH hl9 (by decide) rfl (Nat.le_of_ble_eq_true rfl) ?_
  intro p9 e9 s9 m9 b9 t9 c9 X htab hr
  refine V_lv (lv' := [(0, .ref (ga g (0))), (1, .int (iN (a))), (2, .int (iN (w))), (3, .ref (ga g (110)))]) rfl ?_
  refine V_aload_n X 3 rfl dL_time_0 rfl ?_
  refine V_iconst X dL_time_1 ?_
  refine V_aload_n X 0 rfl dL_time_2 rfl ?_
  refine V_iload_n X 1 rfl dL_time_3 rfl ?_
  refine V_iload_n X 2 rfl dL_time_4 rfl ?_
  refine V_callV_Ix X (na := 2) (ci := 6) (b0 := 0) (by decide) (rfl) (by decide) rfl (m_X6_time g l hl9 σ hR a w ha hw n hLB) gL_time_X6_time rfl rfl rfl (by decide +kernel) ⟨Nat.le_of_ble_eq_true rfl, Nat.le_of_ble_eq_true rfl⟩ rfl rfl (Nat.le_of_ble_eq_true rfl) ⟨Nat.le_of_ble_eq_true rfl, Nat.le_of_ble_eq_true rfl⟩ dL_time_5 (fun E u hp => ?_) (fun z1 u2 z1r hp3 => ?_)
  · skip
    obtain ⟨hE, hc⟩ := hp
    subst hE
    refine VX_catchW X (List.mem_of_getElem? (i := 2) rfl) [] ({ startPc := 0, endPc := 10, handlerPc := 13, catchType := 19 }) [] htab (pass_nil) (by decide) (by decide) (List.mem_of_getElem? (i := 1) rfl) (fun q9 => ?_)
    refine V_astore X [(4, .ref q9), (0, .ref (ga g (0))), (1, .int (iN (a))), (2, .int (iN (w))), (3, .ref (ga g (110)))] dL_time_13 (by decide) rfl ?_
    refine V_iconst X dL_time_15 ?_
    exact V_iretX X hr rfl ⟨by decide, by decide⟩ (by exact Or.inr (⟨rfl, hc⟩)) dL_time_16 (by decide) (by decide)
  · skip
    refine V_i2l X z1r dL_time_8 ?_
    refine V_lastore X dL_time_9 ?_
    refine V_goto X 17 dL_time_10 (by decide) ?_
    refine V_iconst X dL_time_17 ?_
    exact V_iretX X hr rfl ⟨by decide, by decide⟩ (by exact Or.inl ⟨rfl, z1, u2, hp3, rfl⟩) dL_time_18 (by decide) (by decide)
set_option maxRecDepth 100000 in
set_option maxHeartbeats 4000000 in
theorem m_L_ticks (g : Geo) (l : Launch) (hl9 : l.stackTraces = false) (σ : St) (hR : RG σ) (a : Int) (ha : R32 a) (hn30 : σ.1 5 1 ≤ 30) : vx_Met l yL_ticks wsL_ticks ({ frames := 8, cells := 1, slots := 6, locals := 132 }) (va_Pc [.ref (ga g (0)), .int (iN (a)), .ref (ga g (110))] (World g σ)) (QI g (fun z u => (z = 0 ∧ ∃ v u1, ((fun z u => 0 ≤ a ∧ a < σ.1 5 1 ∧ z = σ.1 (7 + 2 * a.toNat) 1 ∧ u = σ) v u1) ∧ u = (u1.1, v, u1.2.2)) ∨ (z = 1 ∧ (¬ (0 ≤ a ∧ a < σ.1 5 1) ∧ u = σ)))) (XT g (fun E u => False)) 1 6 (gA g) := by
  refine V_metH hl9 (by decide) rfl (Nat.le_of_ble_eq_true rfl) ?_
  intro p9 e9 s9 m9 b9 t9 c9 X htab hr
  refine V_lv (lv' := [(0, .ref (ga g (0))), (1, .int (iN (a))), (2, .ref (ga g (110)))]) rfl ?_
  refine V_aload_n X 2 rfl dL_ticks_0 rfl ?_
  refine V_iconst X dL_ticks_1 ?_
  refine V_aload_n X 0 rfl dL_ticks_2 rfl ?_
  refine V_iload_n X 1 rfl dL_ticks_3 rfl ?_
  refine V_callV_Ix X (na := 1) (ci := 6) (b0 := 0) (by decide) (rfl) (by decide) rfl (m_X6_ticks g l hl9 σ hR a ha hn30) gL_ticks_X6_ticks rfl rfl rfl (by decide +kernel) ⟨Nat.le_of_ble_eq_true rfl, Nat.le_of_ble_eq_true rfl⟩ rfl rfl (Nat.le_of_ble_eq_true rfl) ⟨Nat.le_of_ble_eq_true rfl, Nat.le_of_ble_eq_true rfl⟩ dL_ticks_4 (fun E u hp => ?_) (fun z1 u2 z1r hp3 => ?_)
  · skip
    obtain ⟨hE, hc⟩ := hp
    subst hE
    refine VX_catchW X (List.mem_of_getElem? (i := 2) rfl) [] ({ startPc := 0, endPc := 9, handlerPc := 12, catchType := 19 }) [] htab (pass_nil) (by decide) (by decide) (List.mem_of_getElem? (i := 1) rfl) (fun q9 => ?_)
    refine V_astore_n X [(3, .ref q9), (0, .ref (ga g (0))), (1, .int (iN (a))), (2, .ref (ga g (110)))] dL_ticks_12 rfl (by decide) rfl ?_
    refine V_iconst X dL_ticks_13 ?_
    exact V_iretX X hr rfl ⟨by decide, by decide⟩ (by exact Or.inr (⟨rfl, hc⟩)) dL_ticks_14 (by decide) (by decide)
  · skip
    refine V_i2l X z1r dL_ticks_7 ?_
    refine V_lastore X dL_ticks_8 ?_
    refine V_goto X 15 dL_ticks_9 (by decide) ?_
    refine V_iconst X dL_ticks_15 ?_
    exact V_iretX X hr rfl ⟨by decide, by decide⟩ (by exact Or.inl ⟨rfl, z1, u2, hp3, rfl⟩) dL_ticks_16 (by decide) (by decide)
set_option maxRecDepth 100000 in
set_option maxHeartbeats 4000000 in
theorem m_L_inputAt (g : Geo) (l : Launch) (hl9 : l.stackTraces = false) (σ : St) (hR : RG σ) (a k : Int) (ha : R32 a) (hk : R32 k) (n : Nat) (hLB : LB σ n) (hch : ∀ l, l < n → ∀ i, i < 60 → 0 ≤ σ.1 (7 + 2 * l + 1) i ∧ σ.1 (7 + 2 * l + 1) i < 65536) : vx_Met l yL_inputAt wsL_inputAt ({ frames := 8, cells := 2, slots := 12, locals := 134 }) (va_Pc [.ref (ga g (0)), .int (iN (a)), .int (iN (k)), .ref (ga g (110))] (World g σ)) (QI g (fun z u => (z = 0 ∧ ∃ v u1, ((fun z u => (0 ≤ a ∧ a < σ.1 5 1) ∧ 0 ≤ k ∧ k < σ.1 (7 + 2 * a.toNat) 1 ∧ z = σ.1 (7 + 2 * a.toNat + 1) k.toNat ∧ u = σ) v u1) ∧ u = (u1.1, v, u1.2.2)) ∨ (z = 1 ∧ (¬ (0 ≤ a ∧ a < σ.1 5 1)) ∧ u = σ) ∨ (z = 2 ∧ ((0 ≤ a ∧ a < σ.1 5 1) ∧ ¬ (0 ≤ k ∧ k < σ.1 (7 + 2 * a.toNat) 1)) ∧ u = σ))) (XT g (fun E u => False)) 2 12 (gA g) := by
  refine V_metH hl9 (by decide) rfl (Nat.le_of_ble_eq_true rfl) ?_
  intro p9 e9 s9 m9 b9 t9 c9 X htab hr
  refine V_lv (lv' := [(0, .ref (ga g (0))), (1, .int (iN (a))), (2, .int (iN (k))), (3, .ref (ga g (110)))]) rfl ?_
  refine V_aload_n X 3 rfl dL_inputAt_0 rfl ?_
  refine V_iconst X dL_inputAt_1 ?_
  refine V_aload_n X 0 rfl dL_inputAt_2 rfl ?_
  refine V_iload_n X 1 rfl dL_inputAt_3 rfl ?_
  refine V_iload_n X 2 rfl dL_inputAt_4 rfl ?_
  refine V_callV_Ix X (na := 2) (ci := 6) (b0 := 0) (by decide) (rfl) (by decide) rfl (m_X6_inputAt g l hl9 σ hR a k ha hk n hLB hch) gL_inputAt_X6_inputAt rfl rfl rfl (by decide +kernel) ⟨Nat.le_of_ble_eq_true rfl, Nat.le_of_ble_eq_true rfl⟩ rfl rfl (Nat.le_of_ble_eq_true rfl) ⟨Nat.le_of_ble_eq_true rfl, Nat.le_of_ble_eq_true rfl⟩ dL_inputAt_5 (fun E u hp => ?_) (fun z1 u2 z1r hp3 => ?_)
  · skip
    obtain ⟨hpe, hpr⟩ := hp
    rcases hpe with ⟨hE, hc⟩ | ⟨hE, hc⟩
    · skip
      subst hE
      refine VX_catchW X (List.mem_of_getElem? (i := 2) rfl) [] ({ startPc := 0, endPc := 10, handlerPc := 13, catchType := 19 }) [{ startPc := 0, endPc := 10, handlerPc := 17, catchType := 36 }] htab (pass_nil) (by decide) (by decide) (List.mem_of_getElem? (i := 1) rfl) (fun q9 => ?_)
      refine V_astore X [(4, .ref q9), (0, .ref (ga g (0))), (1, .int (iN (a))), (2, .int (iN (k))), (3, .ref (ga g (110)))] dL_inputAt_13 (by decide) rfl ?_
      refine V_iconst X dL_inputAt_15 ?_
      exact V_iretX X hr rfl ⟨by decide, by decide⟩ (by exact Or.inr (Or.inl ⟨rfl, hc, hpr⟩)) dL_inputAt_16 (by decide) (by decide)
    · skip
      subst hE
      refine VX_catchW X (List.mem_of_getElem? (i := 4) rfl) [{ startPc := 0, endPc := 10, handlerPc := 13, catchType := 19 }] ({ startPc := 0, endPc := 10, handlerPc := 17, catchType := 36 }) [] htab (pass_cons ⟨by decide, "java/lang/IndexOutOfBoundsException", List.mem_of_getElem? (i := 1) rfl, List.mem_of_getElem? (i := 2) rfl, by decide⟩ (pass_nil)) (by decide) (by decide) (List.mem_of_getElem? (i := 2) rfl) (fun q9 => ?_)
      refine V_astore X [(4, .ref q9), (0, .ref (ga g (0))), (1, .int (iN (a))), (2, .int (iN (k))), (3, .ref (ga g (110)))] dL_inputAt_17 (by decide) rfl ?_
      refine V_iconst X dL_inputAt_19 ?_
      exact V_iretX X hr rfl ⟨by decide, by decide⟩ (by exact Or.inr (Or.inr (⟨rfl, hc, hpr⟩))) dL_inputAt_20 (by decide) (by decide)
  · skip
    refine V_i2l X z1r dL_inputAt_8 ?_
    refine V_lastore X dL_inputAt_9 ?_
    refine V_goto X 21 dL_inputAt_10 (by decide) ?_
    refine V_iconst X dL_inputAt_21 ?_
    exact V_iretX X hr rfl ⟨by decide, by decide⟩ (by exact Or.inl ⟨rfl, z1, u2, hp3, rfl⟩) dL_inputAt_22 (by decide) (by decide)
set_option maxRecDepth 100000 in
set_option maxHeartbeats 4000000 in
theorem m_L_replay (g : Geo) (l : Launch) (hl9 : l.stackTraces = false) (σ : St) (hR : RG σ) (a k w : Int) (ha : R32 a) (hk : R32 k) (hw : R32 w) (n : Nat) (hLB : LB σ n) (hTK : TK σ) (hT4 : σ.1 0 1 ≤ 4) (hC4 : σ.1 0 3 ≤ 4) (hlt : ∀ l, l < n → (0 ≤ σ.1 (7 + 2 * l) 4 ∧ σ.1 (7 + 2 * l) 4 < σ.1 0 1) ∧ 0 ≤ σ.1 (7 + 2 * l) 5 ∧ σ.1 (7 + 2 * l) 5 < σ.1 0 3) : vx_Met l yL_replay wsL_replay ({ frames := 8, cells := 2, slots := 12, locals := 136 }) (va_Pc [.ref (ga g (0)), .int (iN (a)), .int (iN (k)), .int (iN (w)), .ref (ga g (110))] (World g σ)) (QI g (fun z u => (z = 0 ∧ ∃ v u1, ((fun z u => (0 ≤ a ∧ a < σ.1 5 1) ∧ (0 ≤ k ∧ k ≤ σ.1 (7 + 2 * a.toNat) 1) ∧ z = (if w = 0 then (rdF σ (σ.1 (7 + 2 * a.toNat) 4).toNat (σ.1 (7 + 2 * a.toNat) 5).toNat (σ.1 (7 + 2 * a.toNat + 1)) k.toNat).1 else (rdF σ (σ.1 (7 + 2 * a.toNat) 4).toNat (σ.1 (7 + 2 * a.toNat) 5).toNat (σ.1 (7 + 2 * a.toNat + 1)) k.toNat).2.1) ∧ FrR σ u) v u1) ∧ u = (u1.1, v, u1.2.2)) ∨ (z = 1 ∧ (¬ (0 ≤ a ∧ a < σ.1 5 1)) ∧ FrR σ u) ∨ (z = 2 ∧ ((0 ≤ a ∧ a < σ.1 5 1) ∧ ¬ (0 ≤ k ∧ k ≤ σ.1 (7 + 2 * a.toNat) 1)) ∧ FrR σ u))) (XT g (fun E u => False)) 2 12 (gA g) := by
  refine V_metH hl9 (by decide) rfl (Nat.le_of_ble_eq_true rfl) ?_
  intro p9 e9 s9 m9 b9 t9 c9 X htab hr
  refine V_lv (lv' := [(0, .ref (ga g (0))), (1, .int (iN (a))), (2, .int (iN (k))), (3, .int (iN (w))), (4, .ref (ga g (110)))]) rfl ?_
  refine V_aload X 4 rfl dL_replay_0 ?_
  refine V_iconst X dL_replay_2 ?_
  refine V_aload_n X 0 rfl dL_replay_3 rfl ?_
  refine V_iload_n X 1 rfl dL_replay_4 rfl ?_
  refine V_iload_n X 2 rfl dL_replay_5 rfl ?_
  refine V_iload_n X 3 rfl dL_replay_6 rfl ?_
  refine V_callV_Ix X (na := 3) (ci := 6) (b0 := 0) (by decide) (rfl) (by decide) rfl (m_X6_replay g l hl9 σ hR a k w ha hk hw n hLB hTK hT4 hC4 hlt) gL_replay_X6_replay rfl rfl rfl (by decide +kernel) ⟨Nat.le_of_ble_eq_true rfl, Nat.le_of_ble_eq_true rfl⟩ rfl rfl (Nat.le_of_ble_eq_true rfl) ⟨Nat.le_of_ble_eq_true rfl, Nat.le_of_ble_eq_true rfl⟩ dL_replay_7 (fun E u hp => ?_) (fun z1 u2 z1r hp3 => ?_)
  · skip
    obtain ⟨hpe, hpr⟩ := hp
    rcases hpe with ⟨hE, hc⟩ | ⟨hE, hc⟩
    · skip
      subst hE
      refine VX_catchW X (List.mem_of_getElem? (i := 2) rfl) [] ({ startPc := 0, endPc := 12, handlerPc := 15, catchType := 19 }) [{ startPc := 0, endPc := 12, handlerPc := 19, catchType := 36 }] htab (pass_nil) (by decide) (by decide) (List.mem_of_getElem? (i := 1) rfl) (fun q9 => ?_)
      refine V_astore X [(5, .ref q9), (0, .ref (ga g (0))), (1, .int (iN (a))), (2, .int (iN (k))), (3, .int (iN (w))), (4, .ref (ga g (110)))] dL_replay_15 (by decide) rfl ?_
      refine V_iconst X dL_replay_17 ?_
      exact V_iretX X hr rfl ⟨by decide, by decide⟩ (by exact Or.inr (Or.inl ⟨rfl, hc, hpr⟩)) dL_replay_18 (by decide) (by decide)
    · skip
      subst hE
      refine VX_catchW X (List.mem_of_getElem? (i := 4) rfl) [{ startPc := 0, endPc := 12, handlerPc := 15, catchType := 19 }] ({ startPc := 0, endPc := 12, handlerPc := 19, catchType := 36 }) [] htab (pass_cons ⟨by decide, "java/lang/IndexOutOfBoundsException", List.mem_of_getElem? (i := 1) rfl, List.mem_of_getElem? (i := 2) rfl, by decide⟩ (pass_nil)) (by decide) (by decide) (List.mem_of_getElem? (i := 2) rfl) (fun q9 => ?_)
      refine V_astore X [(5, .ref q9), (0, .ref (ga g (0))), (1, .int (iN (a))), (2, .int (iN (k))), (3, .int (iN (w))), (4, .ref (ga g (110)))] dL_replay_19 (by decide) rfl ?_
      refine V_iconst X dL_replay_21 ?_
      exact V_iretX X hr rfl ⟨by decide, by decide⟩ (by exact Or.inr (Or.inr (⟨rfl, hc, hpr⟩))) dL_replay_22 (by decide) (by decide)
  · skip
    refine V_i2l X z1r dL_replay_10 ?_
    refine V_lastore X dL_replay_11 ?_
    refine V_goto X 23 dL_replay_12 (by decide) ?_
    refine V_iconst X dL_replay_23 ?_
    exact V_iretX X hr rfl ⟨by decide, by decide⟩ (by exact Or.inl ⟨rfl, z1, u2, hp3, rfl⟩) dL_replay_24 (by decide) (by decide)
set_option maxRecDepth 100000 in
set_option maxHeartbeats 4000000 in
theorem m_L_of (g : Geo) (l : Launch) (hl9 : l.stackTraces = false) (σ : St) (hR : RG σ) (a w : Int) (ha : R32 a) (hw : R32 w) (hn30 : σ.1 5 1 ≤ 30) : vx_Met l yL_of wsL_of ({ frames := 8, cells := 2, slots := 12, locals := 134 }) (va_Pc [.ref (ga g (0)), .int (iN (a)), .int (iN (w)), .ref (ga g (110))] (World g σ)) (QI g (fun z u => (z = 0 ∧ ∃ v u1, ((fun z u => (0 ≤ a ∧ a < σ.1 5 1) ∧ ofV w ∧ z = σ.1 (7 + 2 * a.toNat) (ofS w) ∧ u = σ) v u1) ∧ u = (u1.1, v, u1.2.2)) ∨ (z = 1 ∧ (¬ (0 ≤ a ∧ a < σ.1 5 1)) ∧ u = σ) ∨ (z = 2 ∧ ((0 ≤ a ∧ a < σ.1 5 1) ∧ ¬ ofV w) ∧ u = σ))) (XT g (fun E u => False)) 2 12 (gA g) := by
  refine V_metH hl9 (by decide) rfl (Nat.le_of_ble_eq_true rfl) ?_
  intro p9 e9 s9 m9 b9 t9 c9 X htab hr
  refine V_lv (lv' := [(0, .ref (ga g (0))), (1, .int (iN (a))), (2, .int (iN (w))), (3, .ref (ga g (110)))]) rfl ?_
  refine V_aload_n X 3 rfl dL_of_0 rfl ?_
  refine V_iconst X dL_of_1 ?_
  refine V_aload_n X 0 rfl dL_of_2 rfl ?_
  refine V_iload_n X 1 rfl dL_of_3 rfl ?_
  refine V_iload_n X 2 rfl dL_of_4 rfl ?_
  refine V_callV_Ix X (na := 2) (ci := 6) (b0 := 0) (by decide) (rfl) (by decide) rfl (m_X6_of g l hl9 σ hR a w ha hw hn30) gL_of_X6_of rfl rfl rfl (by decide +kernel) ⟨Nat.le_of_ble_eq_true rfl, Nat.le_of_ble_eq_true rfl⟩ rfl rfl (Nat.le_of_ble_eq_true rfl) ⟨Nat.le_of_ble_eq_true rfl, Nat.le_of_ble_eq_true rfl⟩ dL_of_5 (fun E u hp => ?_) (fun z1 u2 z1r hp3 => ?_)
  · skip
    obtain ⟨hpe, hpr⟩ := hp
    rcases hpe with ⟨hE, hc⟩ | ⟨hE, hc⟩
    · skip
      subst hE
      refine VX_catchW X (List.mem_of_getElem? (i := 2) rfl) [] ({ startPc := 0, endPc := 10, handlerPc := 13, catchType := 19 }) [{ startPc := 0, endPc := 10, handlerPc := 17, catchType := 21 }] htab (pass_nil) (by decide) (by decide) (List.mem_of_getElem? (i := 1) rfl) (fun q9 => ?_)
      refine V_astore X [(4, .ref q9), (0, .ref (ga g (0))), (1, .int (iN (a))), (2, .int (iN (w))), (3, .ref (ga g (110)))] dL_of_13 (by decide) rfl ?_
      refine V_iconst X dL_of_15 ?_
      exact V_iretX X hr rfl ⟨by decide, by decide⟩ (by exact Or.inr (Or.inl ⟨rfl, hc, hpr⟩)) dL_of_16 (by decide) (by decide)
    · skip
      subst hE
      refine VX_catchW X (List.mem_of_getElem? (i := 1) rfl) [{ startPc := 0, endPc := 10, handlerPc := 13, catchType := 19 }] ({ startPc := 0, endPc := 10, handlerPc := 17, catchType := 21 }) [] htab (pass_cons ⟨by decide, "java/lang/IndexOutOfBoundsException", List.mem_of_getElem? (i := 1) rfl, List.mem_of_getElem? (i := 2) rfl, by decide⟩ (pass_nil)) (by decide) (by decide) (List.mem_of_getElem? (i := 2) rfl) (fun q9 => ?_)
      refine V_astore X [(4, .ref q9), (0, .ref (ga g (0))), (1, .int (iN (a))), (2, .int (iN (w))), (3, .ref (ga g (110)))] dL_of_17 (by decide) rfl ?_
      refine V_iconst X dL_of_19 ?_
      exact V_iretX X hr rfl ⟨by decide, by decide⟩ (by exact Or.inr (Or.inr (⟨rfl, hc, hpr⟩))) dL_of_20 (by decide) (by decide)
  · skip
    refine V_i2l X z1r dL_of_8 ?_
    refine V_lastore X dL_of_9 ?_
    refine V_goto X 21 dL_of_10 (by decide) ?_
    refine V_iconst X dL_of_21 ?_
    exact V_iretX X hr rfl ⟨by decide, by decide⟩ (by exact Or.inl ⟨rfl, z1, u2, hp3, rfl⟩) dL_of_22 (by decide) (by decide)
set_option maxRecDepth 100000 in
set_option maxHeartbeats 4000000 in
theorem m_L_beats (g : Geo) (l : Launch) (hl9 : l.stackTraces = false) (σ : St) (hR : RG σ) (a : Int) (ha : R32 a) (n : Nat) (hLB : LB σ n) : vx_Met l yL_beats wsL_beats ({ frames := 8, cells := 2, slots := 12, locals := 133 }) (va_Pc [.ref (ga g (0)), .int (iN (a)), .ref (ga g (110))] (World g σ)) (QI g (fun z u => (z = 0 ∧ ∃ v u1, ((fun z u => (0 ≤ a ∧ a < σ.1 5 1) ∧ (0 ≤ σ.1 (7 + 2 * a.toNat) 6 ∧ σ.1 (7 + 2 * a.toNat) 6 < σ.1 5 1) ∧ z = (if cntC σ a.toNat < cntC σ (σ.1 (7 + 2 * a.toNat) 6).toNat then 1 else 0) ∧ u = σ) v u1) ∧ u = (u1.1, v, u1.2.2)) ∨ (z = 1 ∧ (¬ (0 ≤ a ∧ a < σ.1 5 1)) ∧ u = σ) ∨ (z = 2 ∧ ((0 ≤ a ∧ a < σ.1 5 1) ∧ ¬ (0 ≤ σ.1 (7 + 2 * a.toNat) 6 ∧ σ.1 (7 + 2 * a.toNat) 6 < σ.1 5 1)) ∧ u = σ))) (XT g (fun E u => False)) 2 12 (gA g) := by
  refine V_metH hl9 (by decide) rfl (Nat.le_of_ble_eq_true rfl) ?_
  intro p9 e9 s9 m9 b9 t9 c9 X htab hr
  refine V_lv (lv' := [(0, .ref (ga g (0))), (1, .int (iN (a))), (2, .ref (ga g (110)))]) rfl ?_
  refine V_aload_n X 2 rfl dL_beats_0 rfl ?_
  refine V_iconst X dL_beats_1 ?_
  refine V_aload_n X 0 rfl dL_beats_2 rfl ?_
  refine V_iload_n X 1 rfl dL_beats_3 rfl ?_
  refine V_callV_Ix X (na := 1) (ci := 6) (b0 := 0) (by decide) (rfl) (by decide) rfl (m_X6_beats g l hl9 σ hR a ha n hLB) gL_beats_X6_beats rfl rfl rfl (by decide +kernel) ⟨Nat.le_of_ble_eq_true rfl, Nat.le_of_ble_eq_true rfl⟩ rfl rfl (Nat.le_of_ble_eq_true rfl) ⟨Nat.le_of_ble_eq_true rfl, Nat.le_of_ble_eq_true rfl⟩ dL_beats_4 (fun E u hp => ?_) (fun z1 u2 z1r hp3 => ?_)
  · skip
    obtain ⟨hpe, hpr⟩ := hp
    rcases hpe with ⟨hE, hc⟩ | ⟨hE, hc⟩
    · skip
      subst hE
      refine VX_catchW X (List.mem_of_getElem? (i := 2) rfl) [] ({ startPc := 0, endPc := 16, handlerPc := 19, catchType := 19 }) [{ startPc := 0, endPc := 16, handlerPc := 22, catchType := 36 }] htab (pass_nil) (by decide) (by decide) (List.mem_of_getElem? (i := 1) rfl) (fun q9 => ?_)
      refine V_astore_n X [(3, .ref q9), (0, .ref (ga g (0))), (1, .int (iN (a))), (2, .ref (ga g (110)))] dL_beats_19 rfl (by decide) rfl ?_
      refine V_iconst X dL_beats_20 ?_
      exact V_iretX X hr rfl ⟨by decide, by decide⟩ (by exact Or.inr (Or.inl ⟨rfl, hc, hpr⟩)) dL_beats_21 (by decide) (by decide)
    · skip
      subst hE
      refine VX_catchW X (List.mem_of_getElem? (i := 4) rfl) [{ startPc := 0, endPc := 16, handlerPc := 19, catchType := 19 }] ({ startPc := 0, endPc := 16, handlerPc := 22, catchType := 36 }) [] htab (pass_cons ⟨by decide, "java/lang/IndexOutOfBoundsException", List.mem_of_getElem? (i := 1) rfl, List.mem_of_getElem? (i := 2) rfl, by decide⟩ (pass_nil)) (by decide) (by decide) (List.mem_of_getElem? (i := 2) rfl) (fun q9 => ?_)
      refine V_astore_n X [(3, .ref q9), (0, .ref (ga g (0))), (1, .int (iN (a))), (2, .ref (ga g (110)))] dL_beats_22 rfl (by decide) rfl ?_
      refine V_iconst X dL_beats_23 ?_
      exact V_iretX X hr rfl ⟨by decide, by decide⟩ (by exact Or.inr (Or.inr (⟨rfl, hc, hpr⟩))) dL_beats_24 (by decide) (by decide)
  · skip
    refine V_if_eq X 14 z1r dL_beats_7 (by decide) (fun q4 => ?_) (fun q4 => ?_)
    · skip
      refine V_lconst X (z := 0) (by decide) dL_beats_14 ?_
      refine V_topl (b := z1) (by have e := hp3.2.2.1; split at e <;> omega) ?_
      refine V_lastore X dL_beats_15 ?_
      refine V_goto X 25 dL_beats_16 (by decide) ?_
      refine V_iconst X dL_beats_25 ?_
      exact V_iretX X hr rfl ⟨by decide, by decide⟩ (by exact Or.inl ⟨rfl, z1, u2, hp3, rfl⟩) dL_beats_26 (by decide) (by decide)
    · skip
      refine V_lconst X (z := 1) (by decide) dL_beats_10 ?_
      refine V_goto X 15 dL_beats_11 (by decide) ?_
      refine V_topl (b := z1) (by have e := hp3.2.2.1; split at e <;> omega) ?_
      refine V_lastore X dL_beats_15 ?_
      refine V_goto X 25 dL_beats_16 (by decide) ?_
      refine V_iconst X dL_beats_25 ?_
      exact V_iretX X hr rfl ⟨by decide, by decide⟩ (by exact Or.inl ⟨rfl, z1, u2, hp3, rfl⟩) dL_beats_26 (by decide) (by decide)
set_option maxRecDepth 100000 in
set_option maxHeartbeats 4000000 in
theorem m_L_least (g : Geo) (l : Launch) (hl9 : l.stackTraces = false) (σ : St) (hR : RG σ) (a : Int) (ha : R32 a) (hT4 : σ.1 0 1 ≤ 4) (n : Nat) (hLB : LB σ n) : vx_Met l yL_least wsL_least ({ frames := 8, cells := 2, slots := 12, locals := 133 }) (va_Pc [.ref (ga g (0)), .int (iN (a)), .ref (ga g (110))] (World g σ)) (QI g (fun z u => (z = 0 ∧ ∃ v u1, ((fun z u => (0 ≤ a ∧ a < σ.1 0 1) ∧ ¬ bestF (fun l => decide (¬ σ.1 (7 + 2 * l) 9 = 0 ∧ σ.1 (7 + 2 * l) 4 = a)) (cntC σ) n = -1 ∧ z = bestF (fun l => decide (¬ σ.1 (7 + 2 * l) 9 = 0 ∧ σ.1 (7 + 2 * l) 4 = a)) (cntC σ) n ∧ u = σ) v u1) ∧ u = (u1.1, v, u1.2.2)) ∨ (z = 1 ∧ (¬ (0 ≤ a ∧ a < σ.1 0 1)) ∧ u = σ) ∨ (z = 2 ∧ ((0 ≤ a ∧ a < σ.1 0 1) ∧ bestF (fun l => decide (¬ σ.1 (7 + 2 * l) 9 = 0 ∧ σ.1 (7 + 2 * l) 4 = a)) (cntC σ) n = -1) ∧ u = σ))) (XT g (fun E u => False)) 2 12 (gA g) := by
  refine V_metH hl9 (by decide) rfl (Nat.le_of_ble_eq_true rfl) ?_
  intro p9 e9 s9 m9 b9 t9 c9 X htab hr
  refine V_lv (lv' := [(0, .ref (ga g (0))), (1, .int (iN (a))), (2, .ref (ga g (110)))]) rfl ?_
  refine V_aload_n X 2 rfl dL_least_0 rfl ?_
  refine V_iconst X dL_least_1 ?_
  refine V_aload_n X 0 rfl dL_least_2 rfl ?_
  refine V_iload_n X 1 rfl dL_least_3 rfl ?_
  refine V_callV_Ix X (na := 1) (ci := 6) (b0 := 0) (by decide) (rfl) (by decide) rfl (m_X6_least g l hl9 σ hR a ha hT4 n hLB) gL_least_X6_least rfl rfl rfl (by decide +kernel) ⟨Nat.le_of_ble_eq_true rfl, Nat.le_of_ble_eq_true rfl⟩ rfl rfl (Nat.le_of_ble_eq_true rfl) ⟨Nat.le_of_ble_eq_true rfl, Nat.le_of_ble_eq_true rfl⟩ dL_least_4 (fun E u hp => ?_) (fun z1 u2 z1r hp3 => ?_)
  · skip
    obtain ⟨hpe, hpr⟩ := hp
    rcases hpe with ⟨hE, hc⟩ | ⟨hE, hc⟩
    · skip
      subst hE
      refine VX_catchW X (List.mem_of_getElem? (i := 2) rfl) [] ({ startPc := 0, endPc := 9, handlerPc := 12, catchType := 19 }) [{ startPc := 0, endPc := 9, handlerPc := 15, catchType := 36 }] htab (pass_nil) (by decide) (by decide) (List.mem_of_getElem? (i := 1) rfl) (fun q9 => ?_)
      refine V_astore_n X [(3, .ref q9), (0, .ref (ga g (0))), (1, .int (iN (a))), (2, .ref (ga g (110)))] dL_least_12 rfl (by decide) rfl ?_
      refine V_iconst X dL_least_13 ?_
      exact V_iretX X hr rfl ⟨by decide, by decide⟩ (by exact Or.inr (Or.inl ⟨rfl, hc, hpr⟩)) dL_least_14 (by decide) (by decide)
    · skip
      subst hE
      refine VX_catchW X (List.mem_of_getElem? (i := 4) rfl) [{ startPc := 0, endPc := 9, handlerPc := 12, catchType := 19 }] ({ startPc := 0, endPc := 9, handlerPc := 15, catchType := 36 }) [] htab (pass_cons ⟨by decide, "java/lang/IndexOutOfBoundsException", List.mem_of_getElem? (i := 1) rfl, List.mem_of_getElem? (i := 2) rfl, by decide⟩ (pass_nil)) (by decide) (by decide) (List.mem_of_getElem? (i := 2) rfl) (fun q9 => ?_)
      refine V_astore_n X [(3, .ref q9), (0, .ref (ga g (0))), (1, .int (iN (a))), (2, .ref (ga g (110)))] dL_least_15 rfl (by decide) rfl ?_
      refine V_iconst X dL_least_16 ?_
      exact V_iretX X hr rfl ⟨by decide, by decide⟩ (by exact Or.inr (Or.inr (⟨rfl, hc, hpr⟩))) dL_least_17 (by decide) (by decide)
  · skip
    refine V_i2l X z1r dL_least_7 ?_
    refine V_lastore X dL_least_8 ?_
    refine V_goto X 18 dL_least_9 (by decide) ?_
    refine V_iconst X dL_least_18 ?_
    exact V_iretX X hr rfl ⟨by decide, by decide⟩ (by exact Or.inl ⟨rfl, z1, u2, hp3, rfl⟩) dL_least_19 (by decide) (by decide)
set_option maxRecDepth 100000 in
set_option maxHeartbeats 4000000 in
theorem m_L_base (g : Geo) (l : Launch) (hl9 : l.stackTraces = false) (σ : St) (hR : RG σ) (a : Int) (ha : R32 a) (hn30 : σ.1 5 1 ≤ 30) : vx_Met l yL_base wsL_base ({ frames := 8, cells := 2, slots := 12, locals := 133 }) (va_Pc [.ref (ga g (0)), .int (iN (a)), .ref (ga g (110))] (World g σ)) (QI g (fun z u => (z = 0 ∧ ∃ v u1, ((fun z u => (0 ≤ a ∧ a < σ.1 5 1) ∧ ¬ σ.1 (7 + 2 * a.toNat) 10 = -1 ∧ z = σ.1 (7 + 2 * a.toNat) 10 ∧ u = σ) v u1) ∧ u = (u1.1, v, u1.2.2)) ∨ (z = 1 ∧ (¬ (0 ≤ a ∧ a < σ.1 5 1)) ∧ u = σ) ∨ (z = 2 ∧ ((0 ≤ a ∧ a < σ.1 5 1) ∧ σ.1 (7 + 2 * a.toNat) 10 = -1) ∧ u = σ))) (XT g (fun E u => False)) 2 12 (gA g) := by
  refine V_metH hl9 (by decide) rfl (Nat.le_of_ble_eq_true rfl) ?_
  intro p9 e9 s9 m9 b9 t9 c9 X htab hr
  refine V_lv (lv' := [(0, .ref (ga g (0))), (1, .int (iN (a))), (2, .ref (ga g (110)))]) rfl ?_
  refine V_aload_n X 2 rfl dL_base_0 rfl ?_
  refine V_iconst X dL_base_1 ?_
  refine V_aload_n X 0 rfl dL_base_2 rfl ?_
  refine V_iload_n X 1 rfl dL_base_3 rfl ?_
  refine V_callV_Ix X (na := 1) (ci := 6) (b0 := 0) (by decide) (rfl) (by decide) rfl (m_X6_base g l hl9 σ hR a ha hn30) gL_base_X6_base rfl rfl rfl (by decide +kernel) ⟨Nat.le_of_ble_eq_true rfl, Nat.le_of_ble_eq_true rfl⟩ rfl rfl (Nat.le_of_ble_eq_true rfl) ⟨Nat.le_of_ble_eq_true rfl, Nat.le_of_ble_eq_true rfl⟩ dL_base_4 (fun E u hp => ?_) (fun z1 u2 z1r hp3 => ?_)
  · skip
    obtain ⟨hpe, hpr⟩ := hp
    rcases hpe with ⟨hE, hc⟩ | ⟨hE, hc⟩
    · skip
      subst hE
      refine VX_catchW X (List.mem_of_getElem? (i := 2) rfl) [] ({ startPc := 0, endPc := 9, handlerPc := 12, catchType := 19 }) [{ startPc := 0, endPc := 9, handlerPc := 15, catchType := 36 }] htab (pass_nil) (by decide) (by decide) (List.mem_of_getElem? (i := 1) rfl) (fun q9 => ?_)
      refine V_astore_n X [(3, .ref q9), (0, .ref (ga g (0))), (1, .int (iN (a))), (2, .ref (ga g (110)))] dL_base_12 rfl (by decide) rfl ?_
      refine V_iconst X dL_base_13 ?_
      exact V_iretX X hr rfl ⟨by decide, by decide⟩ (by exact Or.inr (Or.inl ⟨rfl, hc, hpr⟩)) dL_base_14 (by decide) (by decide)
    · skip
      subst hE
      refine VX_catchW X (List.mem_of_getElem? (i := 4) rfl) [{ startPc := 0, endPc := 9, handlerPc := 12, catchType := 19 }] ({ startPc := 0, endPc := 9, handlerPc := 15, catchType := 36 }) [] htab (pass_cons ⟨by decide, "java/lang/IndexOutOfBoundsException", List.mem_of_getElem? (i := 1) rfl, List.mem_of_getElem? (i := 2) rfl, by decide⟩ (pass_nil)) (by decide) (by decide) (List.mem_of_getElem? (i := 2) rfl) (fun q9 => ?_)
      refine V_astore_n X [(3, .ref q9), (0, .ref (ga g (0))), (1, .int (iN (a))), (2, .ref (ga g (110)))] dL_base_15 rfl (by decide) rfl ?_
      refine V_iconst X dL_base_16 ?_
      exact V_iretX X hr rfl ⟨by decide, by decide⟩ (by exact Or.inr (Or.inr (⟨rfl, hc, hpr⟩))) dL_base_17 (by decide) (by decide)
  · skip
    refine V_i2l X z1r dL_base_7 ?_
    refine V_lastore X dL_base_8 ?_
    refine V_goto X 18 dL_base_9 (by decide) ?_
    refine V_iconst X dL_base_18 ?_
    exact V_iretX X hr rfl ⟨by decide, by decide⟩ (by exact Or.inl ⟨rfl, z1, u2, hp3, rfl⟩) dL_base_19 (by decide) (by decide)
set_option maxRecDepth 100000 in
set_option maxHeartbeats 4000000 in
theorem m_L_depth (g : Geo) (l : Launch) (hl9 : l.stackTraces = false) (σ : St) (hR : RG σ) (a : Int) (ha : R32 a) (hn30 : σ.1 5 1 ≤ 30) : vx_Met l yL_depth wsL_depth ({ frames := 8, cells := 1, slots := 6, locals := 132 }) (va_Pc [.ref (ga g (0)), .int (iN (a)), .ref (ga g (110))] (World g σ)) (QI g (fun z u => (z = 0 ∧ ∃ v u1, ((fun z u => 0 ≤ a ∧ a < σ.1 5 1 ∧ z = σ.1 (7 + 2 * a.toNat) 11 ∧ u = σ) v u1) ∧ u = (u1.1, v, u1.2.2)) ∨ (z = 1 ∧ (¬ (0 ≤ a ∧ a < σ.1 5 1) ∧ u = σ)))) (XT g (fun E u => False)) 1 6 (gA g) := by
  refine V_metH hl9 (by decide) rfl (Nat.le_of_ble_eq_true rfl) ?_
  intro p9 e9 s9 m9 b9 t9 c9 X htab hr
  refine V_lv (lv' := [(0, .ref (ga g (0))), (1, .int (iN (a))), (2, .ref (ga g (110)))]) rfl ?_
  refine V_aload_n X 2 rfl dL_depth_0 rfl ?_
  refine V_iconst X dL_depth_1 ?_
  refine V_aload_n X 0 rfl dL_depth_2 rfl ?_
  refine V_iload_n X 1 rfl dL_depth_3 rfl ?_
  refine V_callV_Ix X (na := 1) (ci := 6) (b0 := 0) (by decide) (rfl) (by decide) rfl (m_X6_depth g l hl9 σ hR a ha hn30) gL_depth_X6_depth rfl rfl rfl (by decide +kernel) ⟨Nat.le_of_ble_eq_true rfl, Nat.le_of_ble_eq_true rfl⟩ rfl rfl (Nat.le_of_ble_eq_true rfl) ⟨Nat.le_of_ble_eq_true rfl, Nat.le_of_ble_eq_true rfl⟩ dL_depth_4 (fun E u hp => ?_) (fun z1 u2 z1r hp3 => ?_)
  · skip
    obtain ⟨hE, hc⟩ := hp
    subst hE
    refine VX_catchW X (List.mem_of_getElem? (i := 2) rfl) [] ({ startPc := 0, endPc := 9, handlerPc := 12, catchType := 19 }) [] htab (pass_nil) (by decide) (by decide) (List.mem_of_getElem? (i := 1) rfl) (fun q9 => ?_)
    refine V_astore_n X [(3, .ref q9), (0, .ref (ga g (0))), (1, .int (iN (a))), (2, .ref (ga g (110)))] dL_depth_12 rfl (by decide) rfl ?_
    refine V_iconst X dL_depth_13 ?_
    exact V_iretX X hr rfl ⟨by decide, by decide⟩ (by exact Or.inr (⟨rfl, hc⟩)) dL_depth_14 (by decide) (by decide)
  · skip
    refine V_i2l X z1r dL_depth_7 ?_
    refine V_lastore X dL_depth_8 ?_
    refine V_goto X 15 dL_depth_9 (by decide) ?_
    refine V_iconst X dL_depth_15 ?_
    exact V_iretX X hr rfl ⟨by decide, by decide⟩ (by exact Or.inl ⟨rfl, z1, u2, hp3, rfl⟩) dL_depth_16 (by decide) (by decide)
set_option maxRecDepth 100000 in
set_option maxHeartbeats 4000000 in
theorem m_L_parts (g : Geo) (l : Launch) (hl9 : l.stackTraces = false) (σ : St) (hR : RG σ) (a : Int) (ha : R32 a) (hn30 : σ.1 5 1 ≤ 30) : vx_Met l yL_parts wsL_parts ({ frames := 8, cells := 1, slots := 6, locals := 132 }) (va_Pc [.ref (ga g (0)), .int (iN (a)), .ref (ga g (110))] (World g σ)) (QI g (fun z u => (z = 0 ∧ ∃ v u1, ((fun z u => 0 ≤ a ∧ a < σ.1 5 1 ∧ z = σ.1 (7 + 2 * a.toNat) 12 ∧ u = σ) v u1) ∧ u = (u1.1, v, u1.2.2)) ∨ (z = 1 ∧ (¬ (0 ≤ a ∧ a < σ.1 5 1) ∧ u = σ)))) (XT g (fun E u => False)) 1 6 (gA g) := by
  refine V_metH hl9 (by decide) rfl (Nat.le_of_ble_eq_true rfl) ?_
  intro p9 e9 s9 m9 b9 t9 c9 X htab hr
  refine V_lv (lv' := [(0, .ref (ga g (0))), (1, .int (iN (a))), (2, .ref (ga g (110)))]) rfl ?_
  refine V_aload_n X 2 rfl dL_parts_0 rfl ?_
  refine V_iconst X dL_parts_1 ?_
  refine V_aload_n X 0 rfl dL_parts_2 rfl ?_
  refine V_iload_n X 1 rfl dL_parts_3 rfl ?_
  refine V_callV_Ix X (na := 1) (ci := 6) (b0 := 0) (by decide) (rfl) (by decide) rfl (m_X6_parts g l hl9 σ hR a ha hn30) gL_parts_X6_parts rfl rfl rfl (by decide +kernel) ⟨Nat.le_of_ble_eq_true rfl, Nat.le_of_ble_eq_true rfl⟩ rfl rfl (Nat.le_of_ble_eq_true rfl) ⟨Nat.le_of_ble_eq_true rfl, Nat.le_of_ble_eq_true rfl⟩ dL_parts_4 (fun E u hp => ?_) (fun z1 u2 z1r hp3 => ?_)
  · skip
    obtain ⟨hE, hc⟩ := hp
    subst hE
    refine VX_catchW X (List.mem_of_getElem? (i := 2) rfl) [] ({ startPc := 0, endPc := 9, handlerPc := 12, catchType := 19 }) [] htab (pass_nil) (by decide) (by decide) (List.mem_of_getElem? (i := 1) rfl) (fun q9 => ?_)
    refine V_astore_n X [(3, .ref q9), (0, .ref (ga g (0))), (1, .int (iN (a))), (2, .ref (ga g (110)))] dL_parts_12 rfl (by decide) rfl ?_
    refine V_iconst X dL_parts_13 ?_
    exact V_iretX X hr rfl ⟨by decide, by decide⟩ (by exact Or.inr (⟨rfl, hc⟩)) dL_parts_14 (by decide) (by decide)
  · skip
    refine V_i2l X z1r dL_parts_7 ?_
    refine V_lastore X dL_parts_8 ?_
    refine V_goto X 15 dL_parts_9 (by decide) ?_
    refine V_iconst X dL_parts_15 ?_
    exact V_iretX X hr rfl ⟨by decide, by decide⟩ (by exact Or.inl ⟨rfl, z1, u2, hp3, rfl⟩) dL_parts_16 (by decide) (by decide)
set_option maxRecDepth 100000 in
set_option maxHeartbeats 4000000 in
theorem m_L_resting (g : Geo) (l : Launch) (hl9 : l.stackTraces = false) (σ : St) (hR : RG σ) (a : Int) (ha : R32 a) (n : Nat) (hLB : LB σ n) : vx_Met l yL_resting wsL_resting ({ frames := 8, cells := 1, slots := 6, locals := 132 }) (va_Pc [.ref (ga g (0)), .int (iN (a)), .ref (ga g (110))] (World g σ)) (QI g (fun z u => (z = 0 ∧ ∃ v u1, ((fun z u => 0 ≤ a ∧ a < σ.1 5 1 ∧ z = sumF (fun l => if a.toNat < l ∧ wkS (bsC σ) n (a.toNat : Int) (l : Int) 5 = (a.toNat : Int) then 1 else 0) n ∧ u = σ) v u1) ∧ u = (u1.1, v, u1.2.2)) ∨ (z = 1 ∧ (¬ (0 ≤ a ∧ a < σ.1 5 1) ∧ u = σ)))) (XT g (fun E u => False)) 1 6 (gA g) := by
  refine V_metH hl9 (by decide) rfl (Nat.le_of_ble_eq_true rfl) ?_
  intro p9 e9 s9 m9 b9 t9 c9 X htab hr
  refine V_lv (lv' := [(0, .ref (ga g (0))), (1, .int (iN (a))), (2, .ref (ga g (110)))]) rfl ?_
  refine V_aload_n X 2 rfl dL_resting_0 rfl ?_
  refine V_iconst X dL_resting_1 ?_
  refine V_aload_n X 0 rfl dL_resting_2 rfl ?_
  refine V_iload_n X 1 rfl dL_resting_3 rfl ?_
  refine V_callV_Ix X (na := 1) (ci := 6) (b0 := 0) (by decide) (rfl) (by decide) rfl (m_X6_resting g l hl9 σ hR a ha n hLB) gL_resting_X6_resting rfl rfl rfl (by decide +kernel) ⟨Nat.le_of_ble_eq_true rfl, Nat.le_of_ble_eq_true rfl⟩ rfl rfl (Nat.le_of_ble_eq_true rfl) ⟨Nat.le_of_ble_eq_true rfl, Nat.le_of_ble_eq_true rfl⟩ dL_resting_4 (fun E u hp => ?_) (fun z1 u2 z1r hp3 => ?_)
  · skip
    obtain ⟨hE, hc⟩ := hp
    subst hE
    refine VX_catchW X (List.mem_of_getElem? (i := 2) rfl) [] ({ startPc := 0, endPc := 9, handlerPc := 12, catchType := 19 }) [] htab (pass_nil) (by decide) (by decide) (List.mem_of_getElem? (i := 1) rfl) (fun q9 => ?_)
    refine V_astore_n X [(3, .ref q9), (0, .ref (ga g (0))), (1, .int (iN (a))), (2, .ref (ga g (110)))] dL_resting_12 rfl (by decide) rfl ?_
    refine V_iconst X dL_resting_13 ?_
    exact V_iretX X hr rfl ⟨by decide, by decide⟩ (by exact Or.inr (⟨rfl, hc⟩)) dL_resting_14 (by decide) (by decide)
  · skip
    refine V_i2l X z1r dL_resting_7 ?_
    refine V_lastore X dL_resting_8 ?_
    refine V_goto X 15 dL_resting_9 (by decide) ?_
    refine V_iconst X dL_resting_15 ?_
    exact V_iretX X hr rfl ⟨by decide, by decide⟩ (by exact Or.inl ⟨rfl, z1, u2, hp3, rfl⟩) dL_resting_16 (by decide) (by decide)
set_option maxRecDepth 100000 in
set_option maxHeartbeats 4000000 in
theorem m_L_strike (g : Geo) (l : Launch) (hl9 : l.stackTraces = false) (σ : St) (hR : RG σ) (a : Int) (ha : R32 a) (n : Nat) (hLB : LB σ n) : vx_Met l yL_strike wsL_strike ({ frames := 8, cells := 2, slots := 12, locals := 133 }) (va_Pc [.ref (ga g (0)), .int (iN (a)), .ref (ga g (110))] (World g σ)) (QI g (fun z u => (z = 0 ∧ ∃ v u1, ((fun z u => (0 ≤ a ∧ a < σ.1 5 1) ∧ ¬ σ.1 (7 + 2 * a.toNat) 9 = 0 ∧ z = sumF (fun l => if (sw σ (7 + 2 * a.toNat) 9 0).1 (7 + 2 * l) 10 = a then 1 else 0) n ∧ u = mvF (sw σ (7 + 2 * a.toNat) 9 0) n a (σ.1 (7 + 2 * a.toNat) 10) n) v u1) ∧ u = (u1.1, v, u1.2.2)) ∨ (z = 1 ∧ (¬ (0 ≤ a ∧ a < σ.1 5 1)) ∧ u = σ) ∨ (z = 2 ∧ ((0 ≤ a ∧ a < σ.1 5 1) ∧ σ.1 (7 + 2 * a.toNat) 9 = 0) ∧ u = σ))) (XT g (fun E u => False)) 2 12 (gA g) := by
  refine V_metH hl9 (by decide) rfl (Nat.le_of_ble_eq_true rfl) ?_
  intro p9 e9 s9 m9 b9 t9 c9 X htab hr
  refine V_lv (lv' := [(0, .ref (ga g (0))), (1, .int (iN (a))), (2, .ref (ga g (110)))]) rfl ?_
  refine V_aload_n X 2 rfl dL_strike_0 rfl ?_
  refine V_iconst X dL_strike_1 ?_
  refine V_aload_n X 0 rfl dL_strike_2 rfl ?_
  refine V_iload_n X 1 rfl dL_strike_3 rfl ?_
  refine V_callV_Ix X (na := 1) (ci := 6) (b0 := 0) (by decide) (rfl) (by decide) rfl (m_X6_strike g l hl9 σ hR a ha n hLB) gL_strike_X6_strike rfl rfl rfl (by decide +kernel) ⟨Nat.le_of_ble_eq_true rfl, Nat.le_of_ble_eq_true rfl⟩ rfl rfl (Nat.le_of_ble_eq_true rfl) ⟨Nat.le_of_ble_eq_true rfl, Nat.le_of_ble_eq_true rfl⟩ dL_strike_4 (fun E u hp => ?_) (fun z1 u2 z1r hp3 => ?_)
  · skip
    obtain ⟨hpe, hpr⟩ := hp
    rcases hpe with ⟨hE, hc⟩ | ⟨hE, hc⟩
    · skip
      subst hE
      refine VX_catchW X (List.mem_of_getElem? (i := 2) rfl) [] ({ startPc := 0, endPc := 9, handlerPc := 12, catchType := 19 }) [{ startPc := 0, endPc := 9, handlerPc := 15, catchType := 23 }] htab (pass_nil) (by decide) (by decide) (List.mem_of_getElem? (i := 1) rfl) (fun q9 => ?_)
      refine V_astore_n X [(3, .ref q9), (0, .ref (ga g (0))), (1, .int (iN (a))), (2, .ref (ga g (110)))] dL_strike_12 rfl (by decide) rfl ?_
      refine V_iconst X dL_strike_13 ?_
      exact V_iretX X hr rfl ⟨by decide, by decide⟩ (by exact Or.inr (Or.inl ⟨rfl, hc, hpr⟩)) dL_strike_14 (by decide) (by decide)
    · skip
      subst hE
      refine VX_catchW X (List.mem_of_getElem? (i := 3) rfl) [{ startPc := 0, endPc := 9, handlerPc := 12, catchType := 19 }] ({ startPc := 0, endPc := 9, handlerPc := 15, catchType := 23 }) [] htab (pass_cons ⟨by decide, "java/lang/IndexOutOfBoundsException", List.mem_of_getElem? (i := 1) rfl, List.mem_of_getElem? (i := 2) rfl, by decide⟩ (pass_nil)) (by decide) (by decide) (List.mem_of_getElem? (i := 2) rfl) (fun q9 => ?_)
      refine V_astore_n X [(3, .ref q9), (0, .ref (ga g (0))), (1, .int (iN (a))), (2, .ref (ga g (110)))] dL_strike_15 rfl (by decide) rfl ?_
      refine V_iconst X dL_strike_16 ?_
      exact V_iretX X hr rfl ⟨by decide, by decide⟩ (by exact Or.inr (Or.inr (⟨rfl, hc, hpr⟩))) dL_strike_17 (by decide) (by decide)
  · skip
    refine V_i2l X z1r dL_strike_7 ?_
    refine V_lastore X dL_strike_8 ?_
    refine V_goto X 18 dL_strike_9 (by decide) ?_
    refine V_iconst X dL_strike_18 ?_
    exact V_iretX X hr rfl ⟨by decide, by decide⟩ (by exact Or.inl ⟨rfl, z1, u2, hp3, rfl⟩) dL_strike_19 (by decide) (by decide)
set_option maxRecDepth 100000 in
set_option maxHeartbeats 4000000 in
theorem m_L_giveBack (g : Geo) (l : Launch) (hl9 : l.stackTraces = false) (σ : St) (hR : RG σ) (a : Int) (ha : R32 a) (n : Nat) (hLB : LB σ n) : vx_Met l yL_giveBack wsL_giveBack ({ frames := 8, cells := 2, slots := 12, locals := 133 }) (va_Pc [.ref (ga g (0)), .int (iN (a)), .ref (ga g (110))] (World g σ)) (QI g (fun z u => (z = 0 ∧ ∃ v u1, ((fun z u => (0 ≤ a ∧ a < σ.1 5 1) ∧ σ.1 (7 + 2 * a.toNat) 9 = 0 ∧ z = sumF (fun l => if (sw σ (7 + 2 * a.toNat) 9 1).1 (7 + 2 * l) 9 = 0 then 0 else 1) n ∧ u = sw σ (7 + 2 * a.toNat) 9 1) v u1) ∧ u = (u1.1, v, u1.2.2)) ∨ (z = 1 ∧ (¬ (0 ≤ a ∧ a < σ.1 5 1)) ∧ u = σ) ∨ (z = 2 ∧ ((0 ≤ a ∧ a < σ.1 5 1) ∧ ¬ σ.1 (7 + 2 * a.toNat) 9 = 0) ∧ u = σ))) (XT g (fun E u => False)) 2 12 (gA g) := by
  refine V_metH hl9 (by decide) rfl (Nat.le_of_ble_eq_true rfl) ?_
  intro p9 e9 s9 m9 b9 t9 c9 X htab hr
  refine V_lv (lv' := [(0, .ref (ga g (0))), (1, .int (iN (a))), (2, .ref (ga g (110)))]) rfl ?_
  refine V_aload_n X 2 rfl dL_giveBack_0 rfl ?_
  refine V_iconst X dL_giveBack_1 ?_
  refine V_aload_n X 0 rfl dL_giveBack_2 rfl ?_
  refine V_iload_n X 1 rfl dL_giveBack_3 rfl ?_
  refine V_callV_Ix X (na := 1) (ci := 6) (b0 := 0) (by decide) (rfl) (by decide) rfl (m_X6_giveBack g l hl9 σ hR a ha n hLB) gL_giveBack_X6_giveBack rfl rfl rfl (by decide +kernel) ⟨Nat.le_of_ble_eq_true rfl, Nat.le_of_ble_eq_true rfl⟩ rfl rfl (Nat.le_of_ble_eq_true rfl) ⟨Nat.le_of_ble_eq_true rfl, Nat.le_of_ble_eq_true rfl⟩ dL_giveBack_4 (fun E u hp => ?_) (fun z1 u2 z1r hp3 => ?_)
  · skip
    obtain ⟨hpe, hpr⟩ := hp
    rcases hpe with ⟨hE, hc⟩ | ⟨hE, hc⟩
    · skip
      subst hE
      refine VX_catchW X (List.mem_of_getElem? (i := 2) rfl) [] ({ startPc := 0, endPc := 9, handlerPc := 12, catchType := 19 }) [{ startPc := 0, endPc := 9, handlerPc := 15, catchType := 23 }] htab (pass_nil) (by decide) (by decide) (List.mem_of_getElem? (i := 1) rfl) (fun q9 => ?_)
      refine V_astore_n X [(3, .ref q9), (0, .ref (ga g (0))), (1, .int (iN (a))), (2, .ref (ga g (110)))] dL_giveBack_12 rfl (by decide) rfl ?_
      refine V_iconst X dL_giveBack_13 ?_
      exact V_iretX X hr rfl ⟨by decide, by decide⟩ (by exact Or.inr (Or.inl ⟨rfl, hc, hpr⟩)) dL_giveBack_14 (by decide) (by decide)
    · skip
      subst hE
      refine VX_catchW X (List.mem_of_getElem? (i := 3) rfl) [{ startPc := 0, endPc := 9, handlerPc := 12, catchType := 19 }] ({ startPc := 0, endPc := 9, handlerPc := 15, catchType := 23 }) [] htab (pass_cons ⟨by decide, "java/lang/IndexOutOfBoundsException", List.mem_of_getElem? (i := 1) rfl, List.mem_of_getElem? (i := 2) rfl, by decide⟩ (pass_nil)) (by decide) (by decide) (List.mem_of_getElem? (i := 2) rfl) (fun q9 => ?_)
      refine V_astore_n X [(3, .ref q9), (0, .ref (ga g (0))), (1, .int (iN (a))), (2, .ref (ga g (110)))] dL_giveBack_15 rfl (by decide) rfl ?_
      refine V_iconst X dL_giveBack_16 ?_
      exact V_iretX X hr rfl ⟨by decide, by decide⟩ (by exact Or.inr (Or.inr (⟨rfl, hc, hpr⟩))) dL_giveBack_17 (by decide) (by decide)
  · skip
    refine V_i2l X z1r dL_giveBack_7 ?_
    refine V_lastore X dL_giveBack_8 ?_
    refine V_goto X 18 dL_giveBack_9 (by decide) ?_
    refine V_iconst X dL_giveBack_18 ?_
    exact V_iretX X hr rfl ⟨by decide, by decide⟩ (by exact Or.inl ⟨rfl, z1, u2, hp3, rfl⟩) dL_giveBack_19 (by decide) (by decide)
set_option maxRecDepth 100000 in
set_option maxHeartbeats 4000000 in
theorem m_L_stands (g : Geo) (l : Launch) (hl9 : l.stackTraces = false) (σ : St) (hR : RG σ) (a : Int) (ha : R32 a) (hn30 : σ.1 5 1 ≤ 30) (hst : ∀ l : Nat, (l : Int) < σ.1 5 1 → σ.1 (7 + 2 * l) 9 = 0 ∨ σ.1 (7 + 2 * l) 9 = 1) : vx_Met l yL_stands wsL_stands ({ frames := 8, cells := 1, slots := 6, locals := 132 }) (va_Pc [.ref (ga g (0)), .int (iN (a)), .ref (ga g (110))] (World g σ)) (QI g (fun z u => (z = 0 ∧ ∃ v u1, ((fun z u => 0 ≤ a ∧ a < σ.1 5 1 ∧ z = σ.1 (7 + 2 * a.toNat) 9 ∧ u = σ) v u1) ∧ u = (u1.1, v, u1.2.2)) ∨ (z = 1 ∧ (¬ (0 ≤ a ∧ a < σ.1 5 1) ∧ u = σ)))) (XT g (fun E u => False)) 1 6 (gA g) := by
  refine V_metH hl9 (by decide) rfl (Nat.le_of_ble_eq_true rfl) ?_
  intro p9 e9 s9 m9 b9 t9 c9 X htab hr
  refine V_lv (lv' := [(0, .ref (ga g (0))), (1, .int (iN (a))), (2, .ref (ga g (110)))]) rfl ?_
  refine V_aload_n X 2 rfl dL_stands_0 rfl ?_
  refine V_iconst X dL_stands_1 ?_
  refine V_aload_n X 0 rfl dL_stands_2 rfl ?_
  refine V_iload_n X 1 rfl dL_stands_3 rfl ?_
  refine V_callV_Ix X (na := 1) (ci := 6) (b0 := 0) (by decide) (rfl) (by decide) rfl (m_X6_stands g l hl9 σ hR a ha hn30 hst) gL_stands_X6_stands rfl rfl rfl (by decide +kernel) ⟨Nat.le_of_ble_eq_true rfl, Nat.le_of_ble_eq_true rfl⟩ rfl rfl (Nat.le_of_ble_eq_true rfl) ⟨Nat.le_of_ble_eq_true rfl, Nat.le_of_ble_eq_true rfl⟩ dL_stands_4 (fun E u hp => ?_) (fun z1 u2 z1r hp3 => ?_)
  · skip
    obtain ⟨hE, hc⟩ := hp
    subst hE
    refine VX_catchW X (List.mem_of_getElem? (i := 2) rfl) [] ({ startPc := 0, endPc := 16, handlerPc := 19, catchType := 19 }) [] htab (pass_nil) (by decide) (by decide) (List.mem_of_getElem? (i := 1) rfl) (fun q9 => ?_)
    refine V_astore_n X [(3, .ref q9), (0, .ref (ga g (0))), (1, .int (iN (a))), (2, .ref (ga g (110)))] dL_stands_19 rfl (by decide) rfl ?_
    refine V_iconst X dL_stands_20 ?_
    exact V_iretX X hr rfl ⟨by decide, by decide⟩ (by exact Or.inr (⟨rfl, hc⟩)) dL_stands_21 (by decide) (by decide)
  · skip
    refine V_if_eq X 14 z1r dL_stands_7 (by decide) (fun q4 => ?_) (fun q4 => ?_)
    · skip
      refine V_lconst X (z := 0) (by decide) dL_stands_14 ?_
      refine V_topl (b := z1) (by have e := hp3.2.2.1; have := hst a.toNat (by omega); omega) ?_
      refine V_lastore X dL_stands_15 ?_
      refine V_goto X 22 dL_stands_16 (by decide) ?_
      refine V_iconst X dL_stands_22 ?_
      exact V_iretX X hr rfl ⟨by decide, by decide⟩ (by exact Or.inl ⟨rfl, z1, u2, hp3, rfl⟩) dL_stands_23 (by decide) (by decide)
    · skip
      refine V_lconst X (z := 1) (by decide) dL_stands_10 ?_
      refine V_goto X 15 dL_stands_11 (by decide) ?_
      refine V_topl (b := z1) (by have e := hp3.2.2.1; have := hst a.toNat (by omega); omega) ?_
      refine V_lastore X dL_stands_15 ?_
      refine V_goto X 22 dL_stands_16 (by decide) ?_
      refine V_iconst X dL_stands_22 ?_
      exact V_iretX X hr rfl ⟨by decide, by decide⟩ (by exact Or.inl ⟨rfl, z1, u2, hp3, rfl⟩) dL_stands_23 (by decide) (by decide)
set_option maxRecDepth 100000 in
set_option maxHeartbeats 4000000 in
theorem m_L_penalty (g : Geo) (l : Launch) (hl9 : l.stackTraces = false) (σ : St) (hR : RG σ) (a h : Int) (ha : R32 a) (hh : R32 h) (hn30 : σ.1 5 1 ≤ 30) : vx_Met l yL_penalty wsL_penalty ({ frames := 8, cells := 2, slots := 12, locals := 135 }) (va_Pc [.ref (ga g (0)), .int (iN (a)), .int (iN (h)), .ref (ga g (110))] (World g σ)) (QI g (fun z u => (z = 0 ∧ ∃ v u1, ((fun z u => (0 ≤ a ∧ a < σ.1 5 1) ∧ (0 ≤ h ∧ h ≤ 9999) ∧ z = σ.1 (7 + 2 * a.toNat) 8 ∧ u = sw σ (7 + 2 * a.toNat) 8 h) v u1) ∧ u = (u1.1, v, u1.2.2)) ∨ (z = 1 ∧ (¬ (0 ≤ a ∧ a < σ.1 5 1)) ∧ u = σ) ∨ (z = 2 ∧ ((0 ≤ a ∧ a < σ.1 5 1) ∧ ¬ (0 ≤ h ∧ h ≤ 9999)) ∧ u = σ))) (XT g (fun E u => False)) 2 12 (gA g) := by
  refine V_metH hl9 (by decide) rfl (Nat.le_of_ble_eq_true rfl) ?_
  intro p9 e9 s9 m9 b9 t9 c9 X htab hr
  refine V_lv (lv' := [(0, .ref (ga g (0))), (1, .int (iN (a))), (2, .int (iN (h))), (3, .ref (ga g (110)))]) rfl ?_
  refine V_aload_n X 3 rfl dL_penalty_0 rfl ?_
  refine V_iconst X dL_penalty_1 ?_
  refine V_aload_n X 0 rfl dL_penalty_2 rfl ?_
  refine V_iload_n X 1 rfl dL_penalty_3 rfl ?_
  refine V_iload_n X 2 rfl dL_penalty_4 rfl ?_
  refine V_callV_Ix X (na := 2) (ci := 6) (b0 := 0) (by decide) (rfl) (by decide) rfl (m_X6_penalty g l hl9 σ hR a h ha hh hn30) gL_penalty_X6_penalty rfl rfl rfl (by decide +kernel) ⟨Nat.le_of_ble_eq_true rfl, Nat.le_of_ble_eq_true rfl⟩ rfl rfl (Nat.le_of_ble_eq_true rfl) ⟨Nat.le_of_ble_eq_true rfl, Nat.le_of_ble_eq_true rfl⟩ dL_penalty_5 (fun E u hp => ?_) (fun z1 u2 z1r hp3 => ?_)
  · skip
    obtain ⟨hpe, hpr⟩ := hp
    rcases hpe with ⟨hE, hc⟩ | ⟨hE, hc⟩
    · skip
      subst hE
      refine VX_catchW X (List.mem_of_getElem? (i := 2) rfl) [] ({ startPc := 0, endPc := 10, handlerPc := 13, catchType := 19 }) [{ startPc := 0, endPc := 10, handlerPc := 17, catchType := 21 }] htab (pass_nil) (by decide) (by decide) (List.mem_of_getElem? (i := 1) rfl) (fun q9 => ?_)
      refine V_astore X [(4, .ref q9), (0, .ref (ga g (0))), (1, .int (iN (a))), (2, .int (iN (h))), (3, .ref (ga g (110)))] dL_penalty_13 (by decide) rfl ?_
      refine V_iconst X dL_penalty_15 ?_
      exact V_iretX X hr rfl ⟨by decide, by decide⟩ (by exact Or.inr (Or.inl ⟨rfl, hc, hpr⟩)) dL_penalty_16 (by decide) (by decide)
    · skip
      subst hE
      refine VX_catchW X (List.mem_of_getElem? (i := 1) rfl) [{ startPc := 0, endPc := 10, handlerPc := 13, catchType := 19 }] ({ startPc := 0, endPc := 10, handlerPc := 17, catchType := 21 }) [] htab (pass_cons ⟨by decide, "java/lang/IndexOutOfBoundsException", List.mem_of_getElem? (i := 1) rfl, List.mem_of_getElem? (i := 2) rfl, by decide⟩ (pass_nil)) (by decide) (by decide) (List.mem_of_getElem? (i := 2) rfl) (fun q9 => ?_)
      refine V_astore X [(4, .ref q9), (0, .ref (ga g (0))), (1, .int (iN (a))), (2, .int (iN (h))), (3, .ref (ga g (110)))] dL_penalty_17 (by decide) rfl ?_
      refine V_iconst X dL_penalty_19 ?_
      exact V_iretX X hr rfl ⟨by decide, by decide⟩ (by exact Or.inr (Or.inr (⟨rfl, hc, hpr⟩))) dL_penalty_20 (by decide) (by decide)
  · skip
    refine V_i2l X z1r dL_penalty_8 ?_
    refine V_lastore X dL_penalty_9 ?_
    refine V_goto X 21 dL_penalty_10 (by decide) ?_
    refine V_iconst X dL_penalty_21 ?_
    exact V_iretX X hr rfl ⟨by decide, by decide⟩ (by exact Or.inl ⟨rfl, z1, u2, hp3, rfl⟩) dL_penalty_22 (by decide) (by decide)
set_option maxRecDepth 100000 in
set_option maxHeartbeats 4000000 in
theorem m_L_round (g : Geo) (l : Launch) (hl9 : l.stackTraces = false) (σ : St) (hR : RG σ) (a : Int) (ha : R32 a) (hT4 : σ.1 0 1 ≤ 4) (r : Nat) (hr1 : σ.1 67 1 = (r : Int)) : vx_Met l yL_round wsL_round ({ frames := 8, cells := 2, slots := 12, locals := 132 }) (va_Pc [.ref (ga g (0)), .int (iN (a)), .ref (ga g (110))] (World g σ)) (QI g (fun z u => (z = 0 ∧ ∃ v u1, ((fun z u => (0 ≤ a ∧ a < σ.1 0 1) ∧ r < 10 ∧ z = σ.1 67 1 ∧ u = opnF σ r a) v u1) ∧ u = (u1.1, v, u1.2.2)) ∨ (z = 1 ∧ (¬ (0 ≤ a ∧ a < σ.1 0 1)) ∧ u = σ) ∨ (z = 2 ∧ ((0 ≤ a ∧ a < σ.1 0 1) ∧ ¬ r < 10) ∧ u = σ))) (XT g (fun E u => False)) 2 12 (gA g) := by
  refine V_metH hl9 (by decide) rfl (Nat.le_of_ble_eq_true rfl) ?_
  intro p9 e9 s9 m9 b9 t9 c9 X htab hr
  refine V_lv (lv' := [(0, .ref (ga g (0))), (1, .int (iN (a))), (2, .ref (ga g (110)))]) rfl ?_
  refine V_aload_n X 2 rfl dL_round_0 rfl ?_
  refine V_iconst X dL_round_1 ?_
  refine V_aload_n X 0 rfl dL_round_2 rfl ?_
  refine V_iload_n X 1 rfl dL_round_3 rfl ?_
  refine V_callV_Ix X (na := 1) (ci := 6) (b0 := 0) (by decide) (rfl) (by decide) rfl (m_X6_round g l hl9 σ hR a ha hT4 r hr1) gL_round_X6_round rfl rfl rfl (by decide +kernel) ⟨Nat.le_of_ble_eq_true rfl, Nat.le_of_ble_eq_true rfl⟩ rfl rfl (Nat.le_of_ble_eq_true rfl) ⟨Nat.le_of_ble_eq_true rfl, Nat.le_of_ble_eq_true rfl⟩ dL_round_4 (fun E u hp => ?_) (fun z1 u2 z1r hp3 => ?_)
  · skip
    obtain ⟨hpe, hpr⟩ := hp
    rcases hpe with ⟨hE, hc⟩ | ⟨hE, hc⟩
    · skip
      subst hE
      refine VX_catchW X (List.mem_of_getElem? (i := 2) rfl) [] ({ startPc := 0, endPc := 9, handlerPc := 12, catchType := 19 }) [{ startPc := 0, endPc := 9, handlerPc := 15, catchType := 13 }] htab (pass_nil) (by decide) (by decide) (List.mem_of_getElem? (i := 1) rfl) (fun q9 => ?_)
      refine V_astore_n X [(3, .ref q9), (0, .ref (ga g (0))), (1, .int (iN (a))), (2, .ref (ga g (110)))] dL_round_12 rfl (by decide) rfl ?_
      refine V_iconst X dL_round_13 ?_
      exact V_iretX X hr rfl ⟨by decide, by decide⟩ (by exact Or.inr (Or.inl ⟨rfl, hc, hpr⟩)) dL_round_14 (by decide) (by decide)
    · skip
      subst hE
      refine VX_catchW X (List.mem_of_getElem? (i := 0) rfl) [{ startPc := 0, endPc := 9, handlerPc := 12, catchType := 19 }] ({ startPc := 0, endPc := 9, handlerPc := 15, catchType := 13 }) [] htab (pass_cons ⟨by decide, "java/lang/IndexOutOfBoundsException", List.mem_of_getElem? (i := 1) rfl, List.mem_of_getElem? (i := 2) rfl, by decide⟩ (pass_nil)) (by decide) (by decide) (List.mem_of_getElem? (i := 2) rfl) (fun q9 => ?_)
      refine V_astore_n X [(3, .ref q9), (0, .ref (ga g (0))), (1, .int (iN (a))), (2, .ref (ga g (110)))] dL_round_15 rfl (by decide) rfl ?_
      refine V_iconst X dL_round_16 ?_
      exact V_iretX X hr rfl ⟨by decide, by decide⟩ (by exact Or.inr (Or.inr (⟨rfl, hc, hpr⟩))) dL_round_17 (by decide) (by decide)
  · skip
    refine V_i2l X z1r dL_round_7 ?_
    refine V_lastore X dL_round_8 ?_
    refine V_goto X 18 dL_round_9 (by decide) ?_
    refine V_iconst X dL_round_18 ?_
    exact V_iretX X hr rfl ⟨by decide, by decide⟩ (by exact Or.inl ⟨rfl, z1, u2, hp3, rfl⟩) dL_round_19 (by decide) (by decide)
set_option maxRecDepth 100000 in
set_option maxHeartbeats 4000000 in
theorem m_L_shut (g : Geo) (l : Launch) (hl9 : l.stackTraces = false) (σ : St) (hR : RG σ) : vx_Met l yL_shut wsL_shut ({ frames := 7, cells := 1, slots := 6, locals := 111 }) (va_Pc [.ref (ga g (0)), .ref (ga g (110))] (World g σ)) (QI g (fun z u => (z = 0 ∧ ∃ v u1, ((fun z u => ¬ σ.1 67 2 = -1 ∧ z = σ.1 67 2 ∧ u = sw σ 67 2 (-1)) v u1) ∧ u = (u1.1, v, u1.2.2)) ∨ (z = 1 ∧ (σ.1 67 2 = -1 ∧ u = σ)))) (XT g (fun E u => False)) 1 6 (gA g) := by
  refine V_metH hl9 (by decide) rfl (Nat.le_of_ble_eq_true rfl) ?_
  intro p9 e9 s9 m9 b9 t9 c9 X htab hr
  refine V_lv (lv' := [(0, .ref (ga g (0))), (1, .ref (ga g (110)))]) rfl ?_
  refine V_aload_n X 1 rfl dL_shut_0 rfl ?_
  refine V_iconst X dL_shut_1 ?_
  refine V_aload_n X 0 rfl dL_shut_2 rfl ?_
  refine V_callV_Ix X (na := 0) (ci := 6) (b0 := 0) (by decide) (rfl) (by decide) rfl (m_X6_shut g l hl9 σ hR) gL_shut_X6_shut rfl rfl rfl (by decide +kernel) ⟨Nat.le_of_ble_eq_true rfl, Nat.le_of_ble_eq_true rfl⟩ rfl rfl (Nat.le_of_ble_eq_true rfl) ⟨Nat.le_of_ble_eq_true rfl, Nat.le_of_ble_eq_true rfl⟩ dL_shut_3 (fun E u hp => ?_) (fun z1 u2 z1r hp3 => ?_)
  · skip
    obtain ⟨hE, hc⟩ := hp
    subst hE
    refine VX_catchW X (List.mem_of_getElem? (i := 0) rfl) [] ({ startPc := 0, endPc := 8, handlerPc := 11, catchType := 13 }) [] htab (pass_nil) (by decide) (by decide) (List.mem_of_getElem? (i := 1) rfl) (fun q9 => ?_)
    refine V_astore_n X [(2, .ref q9), (0, .ref (ga g (0))), (1, .ref (ga g (110)))] dL_shut_11 rfl (by decide) rfl ?_
    refine V_iconst X dL_shut_12 ?_
    exact V_iretX X hr rfl ⟨by decide, by decide⟩ (by exact Or.inr (⟨rfl, hc⟩)) dL_shut_13 (by decide) (by decide)
  · skip
    refine V_i2l X z1r dL_shut_6 ?_
    refine V_lastore X dL_shut_7 ?_
    refine V_goto X 14 dL_shut_8 (by decide) ?_
    refine V_iconst X dL_shut_14 ?_
    exact V_iretX X hr rfl ⟨by decide, by decide⟩ (by exact Or.inl ⟨rfl, z1, u2, hp3, rfl⟩) dL_shut_15 (by decide) (by decide)
set_option maxRecDepth 100000 in
set_option maxHeartbeats 4000000 in
theorem m_L_lapIn (g : Geo) (l : Launch) (hl9 : l.stackTraces = false) (σ : St) (hR : RG σ) (r d : Int) (hr0 : R32 r) (hd0 : R32 d) (n : Nat) (hLB : LB σ n) : vx_Met l yL_lapIn wsL_lapIn ({ frames := 9, cells := 2, slots := 12, locals := 155 }) (va_Pc [.ref (ga g (0)), .int (iN (r)), .int (iN (d)), .ref (ga g (110))] (World g σ)) (QI g (fun z u => (z = 0 ∧ ∃ v u1, ((fun z u => ((0 ≤ r ∧ r < σ.1 67 1) ∧ 0 ≤ d ∧ d < 6) ∧ ¬ lapF σ n r d.toNat n = -1 ∧ z = lapF σ n r d.toNat n ∧ FrS σ u) v u1) ∧ u = (u1.1, v, u1.2.2)) ∨ (z = 1 ∧ (¬ ((0 ≤ r ∧ r < σ.1 67 1) ∧ 0 ≤ d ∧ d < 6)) ∧ FrS σ u) ∨ (z = 2 ∧ (((0 ≤ r ∧ r < σ.1 67 1) ∧ 0 ≤ d ∧ d < 6) ∧ lapF σ n r d.toNat n = -1) ∧ FrS σ u))) (XT g (fun E u => False)) 2 12 (gA g) := by
  refine V_metH hl9 (by decide) rfl (Nat.le_of_ble_eq_true rfl) ?_
  intro p9 e9 s9 m9 b9 t9 c9 X htab hr
  refine V_lv (lv' := [(0, .ref (ga g (0))), (1, .int (iN (r))), (2, .int (iN (d))), (3, .ref (ga g (110)))]) rfl ?_
  refine V_aload_n X 3 rfl dL_lapIn_0 rfl ?_
  refine V_iconst X dL_lapIn_1 ?_
  refine V_aload_n X 0 rfl dL_lapIn_2 rfl ?_
  refine V_iload_n X 1 rfl dL_lapIn_3 rfl ?_
  refine V_iload_n X 2 rfl dL_lapIn_4 rfl ?_
  refine V_callV_Ix X (na := 2) (ci := 6) (b0 := 0) (by decide) (rfl) (by decide) rfl (m_X6_lapIn g l hl9 σ hR r d hr0 hd0 n hLB) gL_lapIn_X6_lapIn rfl rfl rfl (by decide +kernel) ⟨Nat.le_of_ble_eq_true rfl, Nat.le_of_ble_eq_true rfl⟩ rfl rfl (Nat.le_of_ble_eq_true rfl) ⟨Nat.le_of_ble_eq_true rfl, Nat.le_of_ble_eq_true rfl⟩ dL_lapIn_5 (fun E u hp => ?_) (fun z1 u2 z1r hp3 => ?_)
  · skip
    obtain ⟨hpe, hpr⟩ := hp
    rcases hpe with ⟨hE, hc⟩ | ⟨hE, hc⟩
    · skip
      subst hE
      refine VX_catchW X (List.mem_of_getElem? (i := 2) rfl) [] ({ startPc := 0, endPc := 10, handlerPc := 13, catchType := 19 }) [{ startPc := 0, endPc := 10, handlerPc := 17, catchType := 36 }] htab (pass_nil) (by decide) (by decide) (List.mem_of_getElem? (i := 1) rfl) (fun q9 => ?_)
      refine V_astore X [(4, .ref q9), (0, .ref (ga g (0))), (1, .int (iN (r))), (2, .int (iN (d))), (3, .ref (ga g (110)))] dL_lapIn_13 (by decide) rfl ?_
      refine V_iconst X dL_lapIn_15 ?_
      exact V_iretX X hr rfl ⟨by decide, by decide⟩ (by exact Or.inr (Or.inl ⟨rfl, hc, hpr⟩)) dL_lapIn_16 (by decide) (by decide)
    · skip
      subst hE
      refine VX_catchW X (List.mem_of_getElem? (i := 4) rfl) [{ startPc := 0, endPc := 10, handlerPc := 13, catchType := 19 }] ({ startPc := 0, endPc := 10, handlerPc := 17, catchType := 36 }) [] htab (pass_cons ⟨by decide, "java/lang/IndexOutOfBoundsException", List.mem_of_getElem? (i := 1) rfl, List.mem_of_getElem? (i := 2) rfl, by decide⟩ (pass_nil)) (by decide) (by decide) (List.mem_of_getElem? (i := 2) rfl) (fun q9 => ?_)
      refine V_astore X [(4, .ref q9), (0, .ref (ga g (0))), (1, .int (iN (r))), (2, .int (iN (d))), (3, .ref (ga g (110)))] dL_lapIn_17 (by decide) rfl ?_
      refine V_iconst X dL_lapIn_19 ?_
      exact V_iretX X hr rfl ⟨by decide, by decide⟩ (by exact Or.inr (Or.inr (⟨rfl, hc, hpr⟩))) dL_lapIn_20 (by decide) (by decide)
  · skip
    refine V_i2l X z1r dL_lapIn_8 ?_
    refine V_lastore X dL_lapIn_9 ?_
    refine V_goto X 21 dL_lapIn_10 (by decide) ?_
    refine V_iconst X dL_lapIn_21 ?_
    exact V_iretX X hr rfl ⟨by decide, by decide⟩ (by exact Or.inl ⟨rfl, z1, u2, hp3, rfl⟩) dL_lapIn_22 (by decide) (by decide)
set_option maxRecDepth 100000 in
set_option maxHeartbeats 4000000 in
theorem m_L_placeIn (g : Geo) (l : Launch) (hl9 : l.stackTraces = false) (σ : St) (hR : RG σ) (r d : Int) (hr0 : R32 r) (hd0 : R32 d) (n : Nat) (hLB : LB σ n) : vx_Met l yL_placeIn wsL_placeIn ({ frames := 9, cells := 2, slots := 12, locals := 155 }) (va_Pc [.ref (ga g (0)), .int (iN (r)), .int (iN (d)), .ref (ga g (110))] (World g σ)) (QI g (fun z u => (z = 0 ∧ ∃ v u1, ((fun z u => ((0 ≤ r ∧ r < σ.1 67 1) ∧ 0 ≤ d ∧ d < 6) ∧ ¬ lapF σ n r d.toNat n = -1 ∧ z = plF σ n r.toNat d.toNat + 1 ∧ FrS σ u) v u1) ∧ u = (u1.1, v, u1.2.2)) ∨ (z = 1 ∧ (¬ ((0 ≤ r ∧ r < σ.1 67 1) ∧ 0 ≤ d ∧ d < 6)) ∧ FrS σ u) ∨ (z = 2 ∧ (((0 ≤ r ∧ r < σ.1 67 1) ∧ 0 ≤ d ∧ d < 6) ∧ lapF σ n r d.toNat n = -1) ∧ FrS σ u))) (XT g (fun E u => False)) 2 12 (gA g) := by
  refine V_metH hl9 (by decide) rfl (Nat.le_of_ble_eq_true rfl) ?_
  intro p9 e9 s9 m9 b9 t9 c9 X htab hr
  refine V_lv (lv' := [(0, .ref (ga g (0))), (1, .int (iN (r))), (2, .int (iN (d))), (3, .ref (ga g (110)))]) rfl ?_
  refine V_aload_n X 3 rfl dL_placeIn_0 rfl ?_
  refine V_iconst X dL_placeIn_1 ?_
  refine V_aload_n X 0 rfl dL_placeIn_2 rfl ?_
  refine V_iload_n X 1 rfl dL_placeIn_3 rfl ?_
  refine V_iload_n X 2 rfl dL_placeIn_4 rfl ?_
  refine V_callV_Ix X (na := 2) (ci := 6) (b0 := 0) (by decide) (rfl) (by decide) rfl (m_X6_placeIn g l hl9 σ hR r d hr0 hd0 n hLB) gL_placeIn_X6_placeIn rfl rfl rfl (by decide +kernel) ⟨Nat.le_of_ble_eq_true rfl, Nat.le_of_ble_eq_true rfl⟩ rfl rfl (Nat.le_of_ble_eq_true rfl) ⟨Nat.le_of_ble_eq_true rfl, Nat.le_of_ble_eq_true rfl⟩ dL_placeIn_5 (fun E u hp => ?_) (fun z1 u2 z1r hp3 => ?_)
  · skip
    obtain ⟨hpe, hpr⟩ := hp
    rcases hpe with ⟨hE, hc⟩ | ⟨hE, hc⟩
    · skip
      subst hE
      refine VX_catchW X (List.mem_of_getElem? (i := 2) rfl) [] ({ startPc := 0, endPc := 10, handlerPc := 13, catchType := 19 }) [{ startPc := 0, endPc := 10, handlerPc := 17, catchType := 36 }] htab (pass_nil) (by decide) (by decide) (List.mem_of_getElem? (i := 1) rfl) (fun q9 => ?_)
      refine V_astore X [(4, .ref q9), (0, .ref (ga g (0))), (1, .int (iN (r))), (2, .int (iN (d))), (3, .ref (ga g (110)))] dL_placeIn_13 (by decide) rfl ?_
      refine V_iconst X dL_placeIn_15 ?_
      exact V_iretX X hr rfl ⟨by decide, by decide⟩ (by exact Or.inr (Or.inl ⟨rfl, hc, hpr⟩)) dL_placeIn_16 (by decide) (by decide)
    · skip
      subst hE
      refine VX_catchW X (List.mem_of_getElem? (i := 4) rfl) [{ startPc := 0, endPc := 10, handlerPc := 13, catchType := 19 }] ({ startPc := 0, endPc := 10, handlerPc := 17, catchType := 36 }) [] htab (pass_cons ⟨by decide, "java/lang/IndexOutOfBoundsException", List.mem_of_getElem? (i := 1) rfl, List.mem_of_getElem? (i := 2) rfl, by decide⟩ (pass_nil)) (by decide) (by decide) (List.mem_of_getElem? (i := 2) rfl) (fun q9 => ?_)
      refine V_astore X [(4, .ref q9), (0, .ref (ga g (0))), (1, .int (iN (r))), (2, .int (iN (d))), (3, .ref (ga g (110)))] dL_placeIn_17 (by decide) rfl ?_
      refine V_iconst X dL_placeIn_19 ?_
      exact V_iretX X hr rfl ⟨by decide, by decide⟩ (by exact Or.inr (Or.inr (⟨rfl, hc, hpr⟩))) dL_placeIn_20 (by decide) (by decide)
  · skip
    refine V_i2l X z1r dL_placeIn_8 ?_
    refine V_lastore X dL_placeIn_9 ?_
    refine V_goto X 21 dL_placeIn_10 (by decide) ?_
    refine V_iconst X dL_placeIn_21 ?_
    exact V_iretX X hr rfl ⟨by decide, by decide⟩ (by exact Or.inl ⟨rfl, z1, u2, hp3, rfl⟩) dL_placeIn_22 (by decide) (by decide)
set_option maxRecDepth 100000 in
set_option maxHeartbeats 4000000 in
theorem m_L_drop (g : Geo) (l : Launch) (hl9 : l.stackTraces = false) (σ : St) (hR : RG σ) (a : Int) (ha : R32 a) : vx_Met l yL_drop wsL_drop ({ frames := 7, cells := 1, slots := 6, locals := 112 }) (va_Pc [.ref (ga g (0)), .int (iN (a)), .ref (ga g (110))] (World g σ)) (QI g (fun z u => (z = 0 ∧ ∃ v u1, ((fun z u => (0 ≤ a ∧ a ≤ 3) ∧ z = σ.1 67 3 ∧ u = sw σ 67 3 a) v u1) ∧ u = (u1.1, v, u1.2.2)) ∨ (z = 1 ∧ (¬ (0 ≤ a ∧ a ≤ 3) ∧ u = σ)))) (XT g (fun E u => False)) 1 6 (gA g) := by
  refine V_metH hl9 (by decide) rfl (Nat.le_of_ble_eq_true rfl) ?_
  intro p9 e9 s9 m9 b9 t9 c9 X htab hr
  refine V_lv (lv' := [(0, .ref (ga g (0))), (1, .int (iN (a))), (2, .ref (ga g (110)))]) rfl ?_
  refine V_aload_n X 2 rfl dL_drop_0 rfl ?_
  refine V_iconst X dL_drop_1 ?_
  refine V_aload_n X 0 rfl dL_drop_2 rfl ?_
  refine V_iload_n X 1 rfl dL_drop_3 rfl ?_
  refine V_callV_Ix X (na := 1) (ci := 6) (b0 := 0) (by decide) (rfl) (by decide) rfl (m_X6_drop g l hl9 σ hR a ha) gL_drop_X6_drop rfl rfl rfl (by decide +kernel) ⟨Nat.le_of_ble_eq_true rfl, Nat.le_of_ble_eq_true rfl⟩ rfl rfl (Nat.le_of_ble_eq_true rfl) ⟨Nat.le_of_ble_eq_true rfl, Nat.le_of_ble_eq_true rfl⟩ dL_drop_4 (fun E u hp => ?_) (fun z1 u2 z1r hp3 => ?_)
  · skip
    obtain ⟨hE, hc⟩ := hp
    subst hE
    refine VX_catchW X (List.mem_of_getElem? (i := 1) rfl) [] ({ startPc := 0, endPc := 9, handlerPc := 12, catchType := 21 }) [] htab (pass_nil) (by decide) (by decide) (List.mem_of_getElem? (i := 1) rfl) (fun q9 => ?_)
    refine V_astore_n X [(3, .ref q9), (0, .ref (ga g (0))), (1, .int (iN (a))), (2, .ref (ga g (110)))] dL_drop_12 rfl (by decide) rfl ?_
    refine V_iconst X dL_drop_13 ?_
    exact V_iretX X hr rfl ⟨by decide, by decide⟩ (by exact Or.inr (⟨rfl, hc⟩)) dL_drop_14 (by decide) (by decide)
  · skip
    refine V_i2l X z1r dL_drop_7 ?_
    refine V_lastore X dL_drop_8 ?_
    refine V_goto X 15 dL_drop_9 (by decide) ?_
    refine V_iconst X dL_drop_15 ?_
    exact V_iretX X hr rfl ⟨by decide, by decide⟩ (by exact Or.inl ⟨rfl, z1, u2, hp3, rfl⟩) dL_drop_16 (by decide) (by decide)
set_option maxRecDepth 100000 in
set_option maxHeartbeats 4000000 in
theorem m_L_points (g : Geo) (l : Launch) (hl9 : l.stackTraces = false) (σ : St) (hR : RG σ) (d : Int) (hd0 : R32 d) (n : Nat) (hLB : LB σ n) (R D : Nat) (hRr : σ.1 67 1 = (R : Int)) (hR10 : R ≤ 10) (hDd : σ.1 67 3 = (D : Int)) : vx_Met l yL_points wsL_points ({ frames := 8, cells := 1, slots := 6, locals := 138 }) (va_Pc [.ref (ga g (0)), .int (iN (d)), .ref (ga g (110))] (World g σ)) (QI g (fun z u => (z = 0 ∧ ∃ v u1, ((fun z u => (0 ≤ d ∧ d < 6) ∧ z = ptsF σ n R D d.toNat ∧ FrS σ u) v u1) ∧ u = (u1.1, v, u1.2.2)) ∨ (z = 1 ∧ (¬ (0 ≤ d ∧ d < 6) ∧ FrS σ u)))) (XT g (fun E u => False)) 1 6 (gA g) := by
  refine V_metH hl9 (by decide) rfl (Nat.le_of_ble_eq_true rfl) ?_
  intro p9 e9 s9 m9 b9 t9 c9 X htab hr
  refine V_lv (lv' := [(0, .ref (ga g (0))), (1, .int (iN (d))), (2, .ref (ga g (110)))]) rfl ?_
  refine V_aload_n X 2 rfl dL_points_0 rfl ?_
  refine V_iconst X dL_points_1 ?_
  refine V_aload_n X 0 rfl dL_points_2 rfl ?_
  refine V_iload_n X 1 rfl dL_points_3 rfl ?_
  refine V_callV_Ix X (na := 1) (ci := 6) (b0 := 0) (by decide) (rfl) (by decide) rfl (m_X6_points g l hl9 σ hR d hd0 n hLB R D hRr hR10 hDd) gL_points_X6_points rfl rfl rfl (by decide +kernel) ⟨Nat.le_of_ble_eq_true rfl, Nat.le_of_ble_eq_true rfl⟩ rfl rfl (Nat.le_of_ble_eq_true rfl) ⟨Nat.le_of_ble_eq_true rfl, Nat.le_of_ble_eq_true rfl⟩ dL_points_4 (fun E u hp => ?_) (fun z1 u2 z1r hp3 => ?_)
  · skip
    obtain ⟨hE, hc⟩ := hp
    subst hE
    refine VX_catchW X (List.mem_of_getElem? (i := 2) rfl) [] ({ startPc := 0, endPc := 9, handlerPc := 12, catchType := 19 }) [] htab (pass_nil) (by decide) (by decide) (List.mem_of_getElem? (i := 1) rfl) (fun q9 => ?_)
    refine V_astore_n X [(3, .ref q9), (0, .ref (ga g (0))), (1, .int (iN (d))), (2, .ref (ga g (110)))] dL_points_12 rfl (by decide) rfl ?_
    refine V_iconst X dL_points_13 ?_
    exact V_iretX X hr rfl ⟨by decide, by decide⟩ (by exact Or.inr (⟨rfl, hc⟩)) dL_points_14 (by decide) (by decide)
  · skip
    refine V_i2l X z1r dL_points_7 ?_
    refine V_lastore X dL_points_8 ?_
    refine V_goto X 15 dL_points_9 (by decide) ?_
    refine V_iconst X dL_points_15 ?_
    exact V_iretX X hr rfl ⟨by decide, by decide⟩ (by exact Or.inl ⟨rfl, z1, u2, hp3, rfl⟩) dL_points_16 (by decide) (by decide)
set_option maxRecDepth 100000 in
set_option maxHeartbeats 4000000 in
theorem m_L_wins (g : Geo) (l : Launch) (hl9 : l.stackTraces = false) (σ : St) (hR : RG σ) (d : Int) (hd0 : R32 d) (n : Nat) (hLB : LB σ n) (R D : Nat) (hRr : σ.1 67 1 = (R : Int)) (hR10 : R ≤ 10) (hDd : σ.1 67 3 = (D : Int)) : vx_Met l yL_wins wsL_wins ({ frames := 8, cells := 1, slots := 6, locals := 138 }) (va_Pc [.ref (ga g (0)), .int (iN (d)), .ref (ga g (110))] (World g σ)) (QI g (fun z u => (z = 0 ∧ ∃ v u1, ((fun z u => (0 ≤ d ∧ d < 6) ∧ z = wonF σ n R d.toNat ∧ FrS σ u) v u1) ∧ u = (u1.1, v, u1.2.2)) ∨ (z = 1 ∧ (¬ (0 ≤ d ∧ d < 6) ∧ FrS σ u)))) (XT g (fun E u => False)) 1 6 (gA g) := by
  refine V_metH hl9 (by decide) rfl (Nat.le_of_ble_eq_true rfl) ?_
  intro p9 e9 s9 m9 b9 t9 c9 X htab hr
  refine V_lv (lv' := [(0, .ref (ga g (0))), (1, .int (iN (d))), (2, .ref (ga g (110)))]) rfl ?_
  refine V_aload_n X 2 rfl dL_wins_0 rfl ?_
  refine V_iconst X dL_wins_1 ?_
  refine V_aload_n X 0 rfl dL_wins_2 rfl ?_
  refine V_iload_n X 1 rfl dL_wins_3 rfl ?_
  refine V_callV_Ix X (na := 1) (ci := 6) (b0 := 0) (by decide) (rfl) (by decide) rfl (m_X6_wins g l hl9 σ hR d hd0 n hLB R D hRr hR10 hDd) gL_wins_X6_wins rfl rfl rfl (by decide +kernel) ⟨Nat.le_of_ble_eq_true rfl, Nat.le_of_ble_eq_true rfl⟩ rfl rfl (Nat.le_of_ble_eq_true rfl) ⟨Nat.le_of_ble_eq_true rfl, Nat.le_of_ble_eq_true rfl⟩ dL_wins_4 (fun E u hp => ?_) (fun z1 u2 z1r hp3 => ?_)
  · skip
    obtain ⟨hE, hc⟩ := hp
    subst hE
    refine VX_catchW X (List.mem_of_getElem? (i := 2) rfl) [] ({ startPc := 0, endPc := 9, handlerPc := 12, catchType := 19 }) [] htab (pass_nil) (by decide) (by decide) (List.mem_of_getElem? (i := 1) rfl) (fun q9 => ?_)
    refine V_astore_n X [(3, .ref q9), (0, .ref (ga g (0))), (1, .int (iN (d))), (2, .ref (ga g (110)))] dL_wins_12 rfl (by decide) rfl ?_
    refine V_iconst X dL_wins_13 ?_
    exact V_iretX X hr rfl ⟨by decide, by decide⟩ (by exact Or.inr (⟨rfl, hc⟩)) dL_wins_14 (by decide) (by decide)
  · skip
    refine V_i2l X z1r dL_wins_7 ?_
    refine V_lastore X dL_wins_8 ?_
    refine V_goto X 15 dL_wins_9 (by decide) ?_
    refine V_iconst X dL_wins_15 ?_
    exact V_iretX X hr rfl ⟨by decide, by decide⟩ (by exact Or.inl ⟨rfl, z1, u2, hp3, rfl⟩) dL_wins_16 (by decide) (by decide)
set_option maxRecDepth 100000 in
set_option maxHeartbeats 4000000 in
theorem m_L_standing (g : Geo) (l : Launch) (hl9 : l.stackTraces = false) (σ : St) (hR : RG σ) (d : Int) (hd0 : R32 d) (n : Nat) (hLB : LB σ n) (R D : Nat) (hRr : σ.1 67 1 = (R : Int)) (hR10 : R ≤ 10) (hDd : σ.1 67 3 = (D : Int)) : vx_Met l yL_standing wsL_standing ({ frames := 7, cells := 1, slots := 6, locals := 138 }) (va_Pc [.ref (ga g (0)), .int (iN (d)), .ref (ga g (110))] (World g σ)) (QI g (fun z u => (z = 0 ∧ ∃ v u1, ((fun z u => (0 ≤ d ∧ d < 6) ∧ z = dbF (fun d => ptsF σ n R D d) (fun d => wonF σ n R d) d 6 ∧ FrS σ u) v u1) ∧ u = (u1.1, v, u1.2.2)) ∨ (z = 1 ∧ (¬ (0 ≤ d ∧ d < 6) ∧ FrS σ u)))) (XT g (fun E u => False)) 1 6 (gA g) := by
  refine V_metH hl9 (by decide) rfl (Nat.le_of_ble_eq_true rfl) ?_
  intro p9 e9 s9 m9 b9 t9 c9 X htab hr
  refine V_lv (lv' := [(0, .ref (ga g (0))), (1, .int (iN (d))), (2, .ref (ga g (110)))]) rfl ?_
  refine V_aload_n X 2 rfl dL_standing_0 rfl ?_
  refine V_iconst X dL_standing_1 ?_
  refine V_aload_n X 0 rfl dL_standing_2 rfl ?_
  refine V_iload_n X 1 rfl dL_standing_3 rfl ?_
  refine V_callV_Ix X (na := 1) (ci := 6) (b0 := 0) (by decide) (rfl) (by decide) rfl (m_X6_standing g l hl9 σ hR d hd0 n hLB R D hRr hR10 hDd) gL_standing_X6_standing rfl rfl rfl (by decide +kernel) ⟨Nat.le_of_ble_eq_true rfl, Nat.le_of_ble_eq_true rfl⟩ rfl rfl (Nat.le_of_ble_eq_true rfl) ⟨Nat.le_of_ble_eq_true rfl, Nat.le_of_ble_eq_true rfl⟩ dL_standing_4 (fun E u hp => ?_) (fun z1 u2 z1r hp3 => ?_)
  · skip
    obtain ⟨hE, hc⟩ := hp
    subst hE
    refine VX_catchW X (List.mem_of_getElem? (i := 2) rfl) [] ({ startPc := 0, endPc := 9, handlerPc := 12, catchType := 19 }) [] htab (pass_nil) (by decide) (by decide) (List.mem_of_getElem? (i := 1) rfl) (fun q9 => ?_)
    refine V_astore_n X [(3, .ref q9), (0, .ref (ga g (0))), (1, .int (iN (d))), (2, .ref (ga g (110)))] dL_standing_12 rfl (by decide) rfl ?_
    refine V_iconst X dL_standing_13 ?_
    exact V_iretX X hr rfl ⟨by decide, by decide⟩ (by exact Or.inr (⟨rfl, hc⟩)) dL_standing_14 (by decide) (by decide)
  · skip
    refine V_i2l X z1r dL_standing_7 ?_
    refine V_lastore X dL_standing_8 ?_
    refine V_goto X 15 dL_standing_9 (by decide) ?_
    refine V_iconst X dL_standing_15 ?_
    exact V_iretX X hr rfl ⟨by decide, by decide⟩ (by exact Or.inl ⟨rfl, z1, u2, hp3, rfl⟩) dL_standing_16 (by decide) (by decide)
set_option maxRecDepth 100000 in
set_option maxHeartbeats 4000000 in
theorem m_L_shareStored (g : Geo) (l : Launch) (hl9 : l.stackTraces = false) (σ : St) (hR : RG σ) (n : Nat) (hn : σ.1 5 1 = (n : Int)) (hn30 : n ≤ 30) (hk : ∀ l, l < n → 0 ≤ σ.1 (7 + 2 * l) 1 ∧ σ.1 (7 + 2 * l) 1 ≤ 60) (hsb : -2147483648 ≤ sumF (fun l => σ.1 (7 + 2 * l) 12) n) (hsc : sumF (fun l => σ.1 (7 + 2 * l) 12) n ≤ 2147483647) : vx_Met l yL_shareStored wsL_shareStored ({ frames := 7, cells := 1, slots := 6, locals := 112 }) (va_Pc [.ref (ga g (0)), .ref (ga g (111))] (World g σ)) (QI g (fun z u => (z = 0 ∧ ∃ v u1, ((fun z u => ¬ sumF (fun l => σ.1 (7 + 2 * l) 1) n = 0 ∧ z = FP.fdiv (FP.i2f (iN (sumF (fun l => σ.1 (7 + 2 * l) 12) n))) (FP.i2f (iN (sumF (fun l => σ.1 (7 + 2 * l) 1) n))) ∧ u = σ) v u1) ∧ u = (u1.1, u1.2.1, FP.f2d v) ∧ fpX FP.Core.b64 (FP.f2d v).toNat) ∨ (z = 1 ∧ (sumF (fun l => σ.1 (7 + 2 * l) 1) n = 0 ∧ u = σ)))) (XT g (fun E u => False)) 1 6 (gA g) := by
  refine V_metH hl9 (by decide) rfl (Nat.le_of_ble_eq_true rfl) ?_
  intro p9 e9 s9 m9 b9 t9 c9 X htab hr
  refine V_lv (lv' := [(0, .ref (ga g (0))), (1, .ref (ga g (111)))]) rfl ?_
  refine V_aload_n X 1 rfl dL_shareStored_0 rfl ?_
  refine V_iconst X dL_shareStored_1 ?_
  refine V_aload_n X 0 rfl dL_shareStored_2 rfl ?_
  refine V_callV_Fx X (na := 0) (ci := 6) (b0 := 0) (by decide) (rfl) (by decide) rfl (m_X6_shareStored g l hl9 σ hR n hn hn30 hk hsb hsc) gL_shareStored_X6_shareStored rfl rfl rfl (by decide +kernel) ⟨Nat.le_of_ble_eq_true rfl, Nat.le_of_ble_eq_true rfl⟩ rfl rfl (Nat.le_of_ble_eq_true rfl) ⟨Nat.le_of_ble_eq_true rfl, Nat.le_of_ble_eq_true rfl⟩ dL_shareStored_3 (fun E u hp => ?_) (fun z1 u2 hp3 => ?_)
  · skip
    obtain ⟨hE, hc⟩ := hp
    subst hE
    refine VX_catchW X (List.mem_of_getElem? (i := 4) rfl) [] ({ startPc := 0, endPc := 8, handlerPc := 11, catchType := 36 }) [] htab (pass_nil) (by decide) (by decide) (List.mem_of_getElem? (i := 1) rfl) (fun q9 => ?_)
    refine V_astore_n X [(2, .ref q9), (0, .ref (ga g (0))), (1, .ref (ga g (111)))] dL_shareStored_11 rfl (by decide) rfl ?_
    refine V_iconst X dL_shareStored_12 ?_
    exact V_iretX X hr rfl ⟨by decide, by decide⟩ (by exact Or.inr (⟨rfl, hc⟩)) dL_shareStored_13 (by decide) (by decide)
  · skip
    have hX := share_X hn30 hk hp3.1 hp3.2.1
    refine V_f2d X (fp_f2d hX).2 dL_shareStored_6 ?_
    refine V_dastore X dL_shareStored_7 ?_
    refine V_goto X 14 dL_shareStored_8 (by decide) ?_
    refine V_iconst X dL_shareStored_14 ?_
    exact V_iretX X hr rfl ⟨by decide, by decide⟩ (by exact Or.inl ⟨rfl, z1, u2, hp3, rfl, (fp_f2d hX).1⟩) dL_shareStored_15 (by decide) (by decide)
set_option maxRecDepth 100000 in
set_option maxHeartbeats 4000000 in
theorem m_L_meanTime (g : Geo) (l : Launch) (hl9 : l.stackTraces = false) (σ : St) (hR : RG σ) (n : Nat) (hLB : LB σ n) : vx_Met l yL_meanTime wsL_meanTime ({ frames := 7, cells := 1, slots := 6, locals := 114 }) (va_Pc [.ref (ga g (0)), .ref (ga g (111))] (World g σ)) (QI g (fun z u => (z = 0 ∧ ∃ v u1, ((fun z u => ¬ sumF (fun l => if σ.1 (7 + 2 * l) 9 = 0 then 0 else 1) n = 0 ∧ z = FP.ddiv (FP.i2d (iN (mtF σ n))) (FP.i2d (iN (sumF (fun l => if σ.1 (7 + 2 * l) 9 = 0 then 0 else 1) n))) ∧ u = σ) v u1) ∧ u = (u1.1, u1.2.1, v) ∧ fpX FP.Core.b64 v.toNat) ∨ (z = 1 ∧ (sumF (fun l => if σ.1 (7 + 2 * l) 9 = 0 then 0 else 1) n = 0 ∧ u = σ)))) (XT g (fun E u => False)) 1 6 (gA g) := by
  refine V_metH hl9 (by decide) rfl (Nat.le_of_ble_eq_true rfl) ?_
  intro p9 e9 s9 m9 b9 t9 c9 X htab hr
  refine V_lv (lv' := [(0, .ref (ga g (0))), (1, .ref (ga g (111)))]) rfl ?_
  refine V_aload_n X 1 rfl dL_meanTime_0 rfl ?_
  refine V_iconst X dL_meanTime_1 ?_
  refine V_aload_n X 0 rfl dL_meanTime_2 rfl ?_
  refine V_callV_Dx X (na := 0) (ci := 6) (b0 := 0) (by decide) (rfl) (by decide) rfl (m_X6_meanTime g l hl9 σ hR n hLB) gL_meanTime_X6_meanTime rfl rfl rfl (by decide +kernel) ⟨Nat.le_of_ble_eq_true rfl, Nat.le_of_ble_eq_true rfl⟩ rfl rfl (Nat.le_of_ble_eq_true rfl) ⟨Nat.le_of_ble_eq_true rfl, Nat.le_of_ble_eq_true rfl⟩ dL_meanTime_3 (fun E u hp => ?_) (fun z1 u2 hp3 => ?_)
  · skip
    obtain ⟨hE, hc⟩ := hp
    subst hE
    refine VX_catchW X (List.mem_of_getElem? (i := 4) rfl) [] ({ startPc := 0, endPc := 7, handlerPc := 10, catchType := 36 }) [] htab (pass_nil) (by decide) (by decide) (List.mem_of_getElem? (i := 1) rfl) (fun q9 => ?_)
    refine V_astore_n X [(2, .ref q9), (0, .ref (ga g (0))), (1, .ref (ga g (111)))] dL_meanTime_10 rfl (by decide) rfl ?_
    refine V_iconst X dL_meanTime_11 ?_
    exact V_iretX X hr rfl ⟨by decide, by decide⟩ (by exact Or.inr (⟨rfl, hc⟩)) dL_meanTime_12 (by decide) (by decide)
  · skip
    have hX := mean_X hLB.2.1 hp3.1 hp3.2.1
    refine V_dastore X dL_meanTime_6 ?_
    refine V_goto X 13 dL_meanTime_7 (by decide) ?_
    refine V_iconst X dL_meanTime_13 ?_
    exact V_iretX X hr rfl ⟨by decide, by decide⟩ (by exact Or.inl ⟨rfl, z1, u2, hp3, rfl, hX⟩) dL_meanTime_14 (by decide) (by decide)
