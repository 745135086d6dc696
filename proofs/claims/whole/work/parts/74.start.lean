/-! THE CLAIM OUT OF ONE WALK OF THE LAW'S BODY. Your part is whole_start (and what it stands on); all else here is the same for every law, but numbers. -/
def R_law : String := "GhostracerLaw"
def lw_P (b : Addr) (xs : List Int32) (args : Array Value) (s : State) : Prop := args = #[.ref b] ∧ s.IntsAt b xs ∧ xs.length ≤ 2560 ∧ (Jvm.Cond.and given_1 narrow_1).before args s = true
/-- what a walk over the start with the record d0 says of its end, said of the start itself -/
theorem lw_closed {s t : State} {o : Outcome} {d0 : Drawn} {L : List Loc} {k n : Nat} (hd0 : s.drawn.sameBut d0 lw_cs) (hv : ∃ v, o = .returned v) (hW : (s.setDrawn d0).WarmedH t.vm) (hs : (s.setDrawn d0).sameButNew ({ t with vm := s.vm } : State) L k n) : State.butDraws s t lw_cs (fun t1 => Framed s o t1 L k n) := by
  have h2 : t.drawn = d0 := congrArg State.drawn hs.1
  refine ⟨⟨hv, hW, State.sameButNew.setDrawn hs s.drawn⟩, ?_, by decide⟩
  rw [h2]
  exact hd0
def lw_Q (_ : Array Value) (s : State) (o : Outcome) (t : State) : Prop := o = .returned (some (.int 1)) ∧ State.butDraws s t lw_cs (fun t1 => Framed s o t1 [] 601024 7293034)
def lw_Z (below : List Frame) (a : Array Value) (s : State) : State → Prop := fun t => ∃ o, t.status = .running ∧ Ended t below o ∧ lw_Q a s o t
/-- the law's own end, with 1 on the stack, nothing written that was there before, its room as the claim has it; d0: the record of draws at this point (at the entry s.drawn: begin with 'refine W.base ?_' and 'have hd0 := Drawn.sameBut.refl s.drawn lw_cs') -/
theorem lw_ret {p : Program} {l : Launch} {e : Env} {s : State} {m : MethodId} {below : List Frame} {meth : Method} {c : Code} {b : Nat} {d0 : Drawn} (hd0 : s.drawn.sameBut d0 lw_cs) (hx : p.tables.exec = Jvm.exec) (hb : c.code = code) (hr : meth.sig.returnType = ret) (hlocks : meth.locks = false) {pc : Nat} {H : Heap} {ls : Array Slot} (hdg : decode code pc = .ok (.ireturn, 1)) : W p l e room_1 (s.setDrawn d0) m #[Value.ref b] below meth c H [] 601024 7293034 (lw_Z below #[Value.ref b] s) (F0 m pc ls [.int 1]) := by
  intro T hT X
  obtain ⟨fs, hret, hrun, hended, hW, hframe⟩ := X.leave (v := some (.int 1)) (hlocks := hlocks) (fun h => by rw [hr] at h; cases h)
  have hmeth' : T.vm.method? m = some meth := X.method'
  refine ⟨T.setFrames fs, ?_, .returned (some (.int 1)), hrun, hended, rfl, lw_closed hd0 ⟨_, rfl⟩ hW hframe⟩
  jvm_step X.here [X.here.top, hx, hb, hdg, hmeth', hr, ret, narrow_b1]
  (try refine ⟨rfl, ?_⟩); (try refine ⟨rfl, ?_⟩)
  first | (intro acts; rw [hret _ acts rfl rfl rfl]) | rw [hret _ _ rfl rfl rfl]
  exact Steps.refl _
/-- what holds at the law's entry: the machine, the code, the tables' words (any of lw_tbl by 'hts w (by decide +kernel)'), the script of L ints xs at the cell b, what the Statement gives of the start (any of its parts by flat_of_before) -/
def lw_At (p : Program) (s : State) (m : MethodId) (meth : Method) (c : Code) (b L : Nat) (xs : Nat → Int32) : Prop :=
  p.tables.exec = Jvm.exec ∧ c.code = code ∧ meth.sig.returnType = ret ∧ c.maxLocals = 9 ∧ s.vm.findClass R_law = some m.cls ∧ (∀ w ∈ lw_tbl, w.before #[Value.ref b] s = true) ∧ va_X b L xs s s.heap ∧ b < s.heap.size ∧ meth.locks = false ∧ (Jvm.Cond.and given_1 narrow_1).before #[Value.ref b] s = true

theorem ha_l1 : ∀ cA : ClassId, vp_cell cA (1, .inr (.inl (fun k => if k = 0 then lI 0 else 0))) = arrV cA 1 (fun _ => defaultValue .long) := fun cA => by
  have e : (fun k : Nat => if k = 0 then lI 0 else (0 : Int64)) = fun _ => 0 := by
    funext k
    split
    · decide
    · rfl
  rw [e]
  rfl
theorem ha_d1 : ∀ cA : ClassId, vp_cell cA (1, .inr (.inr (.inr (.inl (fun k => if k = 0 then (0 : UInt64) else 0))))) = arrV cA 1 (fun _ => defaultValue .double) := fun cA => by
  have e : (fun k : Nat => if k = 0 then (0 : UInt64) else (0 : UInt64)) = fun _ => 0 := by
    funext k
    split <;> rfl
  rw [e]
  rfl
set_option maxRecDepth 100000 in
set_option maxHeartbeats 4000000 in
/-- one turn of the law's loop -/
theorem law_turn (g : Geo) {p : Program} (l : Launch) {e : Env} {s : State} {m : MethodId} {args : Array Value} {below : List Frame} {meth : Method} {c : Code} {k0 n0 : Nat} {Q : State → Prop} {b L : Nat} {xs : Nat → Int32} (hl9 : l.stackTraces = false) (X : Cx g p l room_1 s m args meth c cL_law 9 RL wsL_law) (hX : va_X b L xs s s.heap) (hbl : b < s.heap.size) (hbA : ¬ gA g b) (hL : L ≤ 2560) (t : Nat) (ht : 5 * t + 5 ≤ L) {σ : St} (hN : Nx σ) (hk9 : k0 + 5 ≤ 601024) (hn9 : n0 + 30 ≤ 7293034) (kk : ∀ u, Nx u → V g p l e room_1 s m args below meth c 9 (k0 + 5) (n0 + 30) Q u 28 (lvL g b (t + 1)) []) : V g p l e room_1 s m args below meth c 9 k0 n0 Q σ 28 (lvL g b t) [] := by
  have K : ∀ u, Nx u → V g p l e room_1 s m args below meth c 9 (k0 + 5) (n0 + 30) Q u 2387 (lvL g b t) [] := by
    intro u hu
    refine V_lv (lv' := [(0, .ref b), (1, .ref (ga g (0))), (2, .ref (ga g (89))), (3, .ref (ga g (110))), (4, .ref (ga g (111))), (5, .int (iN (5 * (t : Int))))]) rfl ?_
    refine V_iinc X [(5, .int (iN (5 * ((t + 1 : Nat) : Int)))), (0, .ref b), (1, .ref (ga g (0))), (2, .ref (ga g (89))), (3, .ref (ga g (110))), (4, .ref (ga g (111)))] 5 (5 * ((t + 1 : Nat) : Int)) (by omega) rfl dL_law_2387 (by decide) rfl ?_
    refine V_goto X 28 dL_law_2390 (by decide) ?_
    refine V_sub (lv' := lvL g b (t + 1)) [1, 2, 3, 4, 5, 0] rfl ?_
    exact kk u hu
  obtain ⟨z, hz, hze⟩ := and63 ((xs (5 * t + 0)).toInt)
  refine V_lv (lv' := [(0, .ref b), (1, .ref (ga g (0))), (2, .ref (ga g (89))), (3, .ref (ga g (110))), (4, .ref (ga g (111))), (5, .int (iN (5 * (t : Int))))]) rfl ?_
  refine V_iload X 5 rfl dL_law_28 ?_
  refine V_aload_n X 0 rfl dL_law_30 rfl ?_
  refine V_slen X hX hbl hbA dL_law_31 ?_
  refine V_iconst X dL_law_32 ?_
  refine V_isub X dL_law_33 ?_
  refine V_icmp_gt X 2393 ⟨by omega, by omega⟩ ⟨by omega, by omega⟩ dL_law_34 (by decide) (fun h9 => absurd h9 (by omega)) (fun _ => ?_)
  refine V_aload_n X 0 rfl dL_law_37 rfl ?_
  refine V_iload X 5 rfl dL_law_38 ?_
  refine V_sld X hX hbl hbA (5 * t + 0) (by omega) (by omega) (by omega) dL_law_40 ?_
  refine V_bipush X (by decide) dL_law_41 ?_
  refine V_iand X hze dL_law_43 ?_
  refine V_lv (lv' := lvL g b t) rfl ?_
  by_cases h37 : 37 < z
  · refine V_tabOut X 2387 ⟨by omega, by omega⟩ dL_law_44 (Or.inr h37) (by decide) ?_
    exact V_widen (by omega) (by omega) (K _ hN)
  rcases (show z = 0 ∨ z = 1 ∨ z = 2 ∨ z = 3 ∨ z = 4 ∨ z = 5 ∨ z = 6 ∨ z = 7 ∨ z = 8 ∨ z = 9 ∨ z = 10 ∨ z = 11 ∨ z = 12 ∨ z = 13 ∨ z = 14 ∨ z = 15 ∨ z = 16 ∨ z = 17 ∨ z = 18 ∨ z = 19 ∨ z = 20 ∨ z = 21 ∨ z = 22 ∨ z = 23 ∨ z = 24 ∨ z = 25 ∨ z = 26 ∨ z = 27 ∨ z = 28 ∨ z = 29 ∨ z = 30 ∨ z = 31 ∨ z = 32 ∨ z = 33 ∨ z = 34 ∨ z = 35 ∨ z = 36 ∨ z = 37 by omega) with rfl | rfl | rfl | rfl | rfl | rfl | rfl | rfl | rfl | rfl | rfl | rfl | rfl | rfl | rfl | rfl | rfl | rfl | rfl | rfl | rfl | rfl | rfl | rfl | rfl | rfl | rfl | rfl | rfl | rfl | rfl | rfl | rfl | rfl | rfl | rfl | rfl | rfl
  · refine V_tabIn X 212 ⟨by decide, by decide⟩ dL_law_44 (by decide) (by decide) rfl (by decide) ?_
    exact lc_0 g l hl9 X hX hbl hbA hL t ht hN hk9 hn9 K
  · refine V_tabIn X 256 ⟨by decide, by decide⟩ dL_law_44 (by decide) (by decide) rfl (by decide) ?_
    exact lc_1 g l hl9 X hX hbl hbA hL t ht hN hk9 hn9 K
  · refine V_tabIn X 336 ⟨by decide, by decide⟩ dL_law_44 (by decide) (by decide) rfl (by decide) ?_
    exact lc_2 g l hl9 X hX hbl hbA hL t ht hN hk9 hn9 K
  · refine V_tabIn X 416 ⟨by decide, by decide⟩ dL_law_44 (by decide) (by decide) rfl (by decide) ?_
    exact lc_3 g l hl9 X hX hbl hbA hL t ht hN hk9 hn9 K
  · refine V_tabIn X 472 ⟨by decide, by decide⟩ dL_law_44 (by decide) (by decide) rfl (by decide) ?_
    exact lc_4 g l hl9 X hX hbl hbA hL t ht hN hk9 hn9 K
  · refine V_tabIn X 540 ⟨by decide, by decide⟩ dL_law_44 (by decide) (by decide) rfl (by decide) ?_
    exact lc_5 g l hl9 X hX hbl hbA hL t ht hN hk9 hn9 K
  · refine V_tabIn X 610 ⟨by decide, by decide⟩ dL_law_44 (by decide) (by decide) rfl (by decide) ?_
    exact lc_6 g l hl9 X hX hbl hbA hL t ht hN hk9 hn9 K
  · refine V_tabIn X 623 ⟨by decide, by decide⟩ dL_law_44 (by decide) (by decide) rfl (by decide) ?_
    exact lc_7 g l hl9 X hX hbl hbA hL t ht hN hk9 hn9 K
  · refine V_tabIn X 715 ⟨by decide, by decide⟩ dL_law_44 (by decide) (by decide) rfl (by decide) ?_
    exact lc_8 g l hl9 X hX hbl hbA hL t ht hN hk9 hn9 K
  · refine V_tabIn X 783 ⟨by decide, by decide⟩ dL_law_44 (by decide) (by decide) rfl (by decide) ?_
    exact lc_9 g l hl9 X hX hbl hbA hL t ht hN hk9 hn9 K
  · refine V_tabIn X 796 ⟨by decide, by decide⟩ dL_law_44 (by decide) (by decide) rfl (by decide) ?_
    exact lc_10 g l hl9 X hX hbl hbA hL t ht hN hk9 hn9 K
  · refine V_tabIn X 880 ⟨by decide, by decide⟩ dL_law_44 (by decide) (by decide) rfl (by decide) ?_
    exact lc_11 g l hl9 X hX hbl hbA hL t ht hN hk9 hn9 K
  · refine V_tabIn X 936 ⟨by decide, by decide⟩ dL_law_44 (by decide) (by decide) rfl (by decide) ?_
    exact lc_12 g l hl9 X hX hbl hbA hL t ht hN hk9 hn9 K
  · refine V_tabIn X 1004 ⟨by decide, by decide⟩ dL_law_44 (by decide) (by decide) rfl (by decide) ?_
    exact lc_13 g l hl9 X hX hbl hbA hL t ht hN hk9 hn9 K
  · refine V_tabIn X 1100 ⟨by decide, by decide⟩ dL_law_44 (by decide) (by decide) rfl (by decide) ?_
    exact lc_14 g l hl9 X hX hbl hbA hL t ht hN hk9 hn9 K
  · refine V_tabIn X 1170 ⟨by decide, by decide⟩ dL_law_44 (by decide) (by decide) rfl (by decide) ?_
    exact lc_15 g l hl9 X hX hbl hbA hL t ht hN hk9 hn9 K
  · refine V_tabIn X 1233 ⟨by decide, by decide⟩ dL_law_44 (by decide) (by decide) rfl (by decide) ?_
    exact lc_16 g l hl9 X hX hbl hbA hL t ht hN hk9 hn9 K
  · refine V_tabIn X 1289 ⟨by decide, by decide⟩ dL_law_44 (by decide) (by decide) rfl (by decide) ?_
    exact lc_17 g l hl9 X hX hbl hbA hL t ht hN hk9 hn9 K
  · refine V_tabIn X 1345 ⟨by decide, by decide⟩ dL_law_44 (by decide) (by decide) rfl (by decide) ?_
    exact lc_18 g l hl9 X hX hbl hbA hL t ht hN hk9 hn9 K
  · refine V_tabIn X 1401 ⟨by decide, by decide⟩ dL_law_44 (by decide) (by decide) rfl (by decide) ?_
    exact lc_19 g l hl9 X hX hbl hbA hL t ht hN hk9 hn9 K
  · refine V_tabIn X 1457 ⟨by decide, by decide⟩ dL_law_44 (by decide) (by decide) rfl (by decide) ?_
    exact lc_20 g l hl9 X hX hbl hbA hL t ht hN hk9 hn9 K
  · refine V_tabIn X 1470 ⟨by decide, by decide⟩ dL_law_44 (by decide) (by decide) rfl (by decide) ?_
    exact lc_21 g l hl9 X hX hbl hbA hL t ht hN hk9 hn9 K
  · refine V_tabIn X 1526 ⟨by decide, by decide⟩ dL_law_44 (by decide) (by decide) rfl (by decide) ?_
    exact lc_22 g l hl9 X hX hbl hbA hL t ht hN hk9 hn9 K
  · refine V_tabIn X 1582 ⟨by decide, by decide⟩ dL_law_44 (by decide) (by decide) rfl (by decide) ?_
    exact lc_23 g l hl9 X hX hbl hbA hL t ht hN hk9 hn9 K
  · refine V_tabIn X 1638 ⟨by decide, by decide⟩ dL_law_44 (by decide) (by decide) rfl (by decide) ?_
    exact lc_24 g l hl9 X hX hbl hbA hL t ht hN hk9 hn9 K
  · refine V_tabIn X 1701 ⟨by decide, by decide⟩ dL_law_44 (by decide) (by decide) rfl (by decide) ?_
    exact lc_25 g l hl9 X hX hbl hbA hL t ht hN hk9 hn9 K
  · refine V_tabIn X 1769 ⟨by decide, by decide⟩ dL_law_44 (by decide) (by decide) rfl (by decide) ?_
    exact lc_26 g l hl9 X hX hbl hbA hL t ht hN hk9 hn9 K
  · refine V_tabIn X 1825 ⟨by decide, by decide⟩ dL_law_44 (by decide) (by decide) rfl (by decide) ?_
    exact lc_27 g l hl9 X hX hbl hbA hL t ht hN hk9 hn9 K
  · refine V_tabIn X 1869 ⟨by decide, by decide⟩ dL_law_44 (by decide) (by decide) rfl (by decide) ?_
    exact lc_28 g l hl9 X hX hbl hbA hL t ht hN hk9 hn9 K
  · refine V_tabIn X 1937 ⟨by decide, by decide⟩ dL_law_44 (by decide) (by decide) rfl (by decide) ?_
    exact lc_29 g l hl9 X hX hbl hbA hL t ht hN hk9 hn9 K
  · refine V_tabIn X 2005 ⟨by decide, by decide⟩ dL_law_44 (by decide) (by decide) rfl (by decide) ?_
    exact lc_30 g l hl9 X hX hbl hbA hL t ht hN hk9 hn9 K
  · refine V_tabIn X 2061 ⟨by decide, by decide⟩ dL_law_44 (by decide) (by decide) rfl (by decide) ?_
    exact lc_31 g l hl9 X hX hbl hbA hL t ht hN hk9 hn9 K
  · refine V_tabIn X 2117 ⟨by decide, by decide⟩ dL_law_44 (by decide) (by decide) rfl (by decide) ?_
    exact lc_32 g l hl9 X hX hbl hbA hL t ht hN hk9 hn9 K
  · refine V_tabIn X 2173 ⟨by decide, by decide⟩ dL_law_44 (by decide) (by decide) rfl (by decide) ?_
    exact lc_33 g l hl9 X hX hbl hbA hL t ht hN hk9 hn9 K
  · refine V_tabIn X 2229 ⟨by decide, by decide⟩ dL_law_44 (by decide) (by decide) rfl (by decide) ?_
    exact lc_34 g l hl9 X hX hbl hbA hL t ht hN hk9 hn9 K
  · refine V_tabIn X 2243 ⟨by decide, by decide⟩ dL_law_44 (by decide) (by decide) rfl (by decide) ?_
    exact lc_35 g l hl9 X hX hbl hbA hL t ht hN hk9 hn9 K
  · refine V_tabIn X 2309 ⟨by decide, by decide⟩ dL_law_44 (by decide) (by decide) rfl (by decide) ?_
    exact lc_36 g l hl9 X hX hbl hbA hL t ht hN hk9 hn9 K
  · refine V_tabIn X 2374 ⟨by decide, by decide⟩ dL_law_44 (by decide) (by decide) rfl (by decide) ?_
    exact lc_37 g l hl9 X hX hbl hbA hL t ht hN hk9 hn9 K
set_option maxRecDepth 100000 in
set_option maxHeartbeats 4000000 in
/-- the law, from its loop's head -/
theorem law_loop (g : Geo) {p : Program} (l : Launch) {e : Env} {s : State} {m : MethodId} {below : List Frame} {meth : Method} {c : Code} {k0 n0 : Nat} {b L : Nat} {xs : Nat → Int32} (hl9 : l.stackTraces = false) (hr : meth.sig.returnType = ret) (hgh : gh g = s.heap.size) (X : Cx g p l room_1 s m #[Value.ref b] meth c cL_law 9 RL wsL_law) (hX : va_X b L xs s s.heap) (hbl : b < s.heap.size) (hbA : ¬ gA g b) (hL : L ≤ 2560) (hk9 : k0 + 2560 ≤ 601024) (hn9 : n0 + 15360 ≤ 7293034) {σ : St} (hN : Nx σ) : V g p l e room_1 s m #[Value.ref b] below meth c 9 k0 n0 (lw_Z below #[Value.ref b] s) σ 28 (lvL g b 0) [] := by
  refine V_upk (N := L / 5) (dk := 5) (dn := 30) (fun t u lw => Nx u ∧ lw = lvL g b t) ⟨hN, rfl⟩ ?_ ?_
  · rintro u _ ⟨hu, rfl⟩
    refine V_lv (lv' := [(0, .ref b), (1, .ref (ga g (0))), (2, .ref (ga g (89))), (3, .ref (ga g (110))), (4, .ref (ga g (111))), (5, .int (iN (5 * ((L / 5 : Nat) : Int))))]) rfl ?_
    refine V_iload X 5 rfl dL_law_28 ?_
    refine V_aload_n X 0 rfl dL_law_30 rfl ?_
    refine V_slen X hX hbl hbA dL_law_31 ?_
    refine V_iconst X dL_law_32 ?_
    refine V_isub X dL_law_33 ?_
    refine V_icmp_gt X 2393 ⟨by omega, by omega⟩ ⟨by omega, by omega⟩ dL_law_34 (by decide) (fun _ => ?_) (fun h9 => absurd (show (L : Int) - 5 < 5 * ((L / 5 : Nat) : Int) by omega) h9)
    refine V_iconst X dL_law_2393 ?_
    obtain ⟨⟨hx, hb, hml, hown, hts⟩, hwk, hg, hl9', hlk⟩ := X
    intro H locs ls hP hS hl
    refine W.widen (k := 601024) (n := 7293034) (by omega) (by omega) ?_
    refine va_forget (fun q hq => ?_) ?_
    · have := hS.2.2 q hq
      unfold gA at this
      rw [hgh] at this
      exact this
    · rw [show iN 1 = (1 : Int32) by decide]
      exact lw_ret (d0 := s.drawn) (Drawn.sameBut.refl s.drawn lw_cs) hx hb hr hlk dL_law_2394
  · rintro t u _ ht ⟨hu, rfl⟩ kk
    exact law_turn g l hl9 X hX hbl hbA hL t (by omega) hu (by omega) (by omega) (fun u2 hu2 => kk u2 _ ⟨hu2, rfl⟩)
set_option maxRecDepth 100000 in
set_option maxHeartbeats 4000000 in
theorem whole_start {p : Program} {e : Env} {s : State} {m : MethodId} {below : List Frame} {meth : Method} {c : Code} (l : Launch) (hflags : l.flags = flags0) {b L : Nat} {xs : Nat → Int32} (hL : L ≤ 2560) (C0 : lw_At p s m meth c b L xs) : W p l e room_1 s m #[Value.ref b] below meth c s.heap [] 0 0 (lw_Z below #[Value.ref b] s) (entryFrame m ([Value.ref b] : List Value).toArray 9) := by
  obtain ⟨hx, hb, hr, hml, hown, hts, hX, hbl, hlocks, hgv⟩ := id C0
  obtain ⟨g, ⟨hgh, hgn⟩, hwk, hwn⟩ := world0 hts hgv
  have hl9 : l.stackTraces = false := by
    unfold Launch.stackTraces
    rw [hflags]
    decide +kernel
  have hbA : ¬ gA g b := by
    unfold gA
    rw [hgh]
    exact Nat.not_le.mpr hbl
  have X : Cx g p l room_1 s m #[Value.ref b] meth c cL_law 9 RL wsL_law := ⟨⟨hx, hb, hml, hown, fun w h => hts w (wsL_law_in w h)⟩, hwk, hgn.ok, hl9, hlocks⟩
  have key : VP g p l e room_1 s m #[Value.ref b] below meth c 9 0 0 (lw_Z below #[Value.ref b] s) 0 (cz g) 0 [(0, .ref b)] [] := by
    refine VP_new X hgn (ci := 6) rfl inlX6 tyX6 tyX6_ok (lck_r1 _ (List.mem_of_getElem? (i := 0) rfl)) (lck_r1 _ (List.mem_of_getElem? (i := 1) rfl)) (lck_r1 _ (List.mem_of_getElem? (i := 2) rfl)) (fs := nl6) nl6_ok (Nat.le_of_ble_eq_true rfl) (Nat.le_of_ble_eq_true rfl) dL_law_0 ?_
    refine VP_dup X rfl dL_law_3 ?_
    refine VP_callI X hgn hwn (m_X6_init g l hl9 (ue (cz g) 0 (.inr (6, nl6))) ue_s) gL_law_X6_init rfl rfl rfl (lck_r1 _ (List.mem_of_getElem? (i := 2) rfl)) (lck_r1 _ (List.mem_of_getElem? (i := 8) rfl)) (lck_r1 _ (List.mem_of_getElem? (i := 9) rfl)) rfl (by decide +kernel) ⟨Nat.le_of_ble_eq_true rfl, Nat.le_of_ble_eq_true rfl⟩ (Nat.le_of_ble_eq_true rfl) ⟨Nat.le_of_ble_eq_true rfl, Nat.le_of_ble_eq_true rfl⟩ dL_law_4 ?_
    refine VP_astore_n X [(1, .ref (ga g 0)), (0, .ref b)] dL_law_7 rfl (by decide) rfl ?_
    refine VP_new X hgn (ci := 7) rfl inlX7 tyX7 tyX7_ok (lck_r1 _ (List.mem_of_getElem? (i := 3) rfl)) (lck_r1 _ (List.mem_of_getElem? (i := 4) rfl)) (lck_r1 _ (List.mem_of_getElem? (i := 5) rfl)) (fs := nl7) nl7_ok (Nat.le_of_ble_eq_true rfl) (Nat.le_of_ble_eq_true rfl) dL_law_8 ?_
    refine VP_dup X rfl dL_law_11 ?_
    refine VP_callI X hgn hwn (m_X7_init g l hl9 (ue (cz g) 89 (.inr (7, nl7))) ue_s) gL_law_X7_init rfl rfl rfl (lck_r1 _ (List.mem_of_getElem? (i := 5) rfl)) (lck_r3 _ (List.mem_of_getElem? (i := 21) rfl)) (lck_r3 _ (List.mem_of_getElem? (i := 22) rfl)) rfl (by decide +kernel) ⟨Nat.le_of_ble_eq_true rfl, Nat.le_of_ble_eq_true rfl⟩ (Nat.le_of_ble_eq_true rfl) ⟨Nat.le_of_ble_eq_true rfl, Nat.le_of_ble_eq_true rfl⟩ dL_law_12 ?_
    refine VP_astore_n X [(2, .ref (ga g 89)), (1, .ref (ga g 0)), (0, .ref b)] dL_law_15 rfl (by decide) rfl ?_
    refine VP_iconst X dL_law_16 ?_
    refine VP_newa X hgn (ty := .long) rfl (lck_r1 _ (List.mem_of_getElem? (i := 6) rfl)) 3 rfl (N := 1) rfl (by decide) ha_l1 (Nat.le_of_ble_eq_true rfl) (Nat.le_of_ble_eq_true rfl) (Nat.le_of_ble_eq_true rfl) dL_law_17 ?_
    refine VP_astore_n X [(3, .ref (ga g 110)), (2, .ref (ga g 89)), (1, .ref (ga g 0)), (0, .ref b)] dL_law_19 rfl (by decide) rfl ?_
    refine VP_iconst X dL_law_20 ?_
    refine VP_newa X hgn (ty := .double) rfl (lck_r1 _ (List.mem_of_getElem? (i := 7) rfl)) 4 rfl (N := 1) rfl (by decide) ha_d1 (Nat.le_of_ble_eq_true rfl) (Nat.le_of_ble_eq_true rfl) (Nat.le_of_ble_eq_true rfl) dL_law_21 ?_
    refine VP_E (E' := fun n => cL g (s0.1 n) s0.2 n) (fun i hi => ?_) ?_
    · show _ = cz g i
      by_cases h1 : i = 111
      · subst h1
        rw [ue_s]
        rfl
      · rw [ue_n h1]
        by_cases h2 : i = 110
        · subst h2
          rw [ue_s]
          rfl
        · rw [ue_n h2]
          by_cases h3 : i < 89
          · rw [fz_lt h3, ue_n (by omega)]
          · rw [fz_ge (by omega)]
    refine VP_V ?_
    refine V_astore X [(4, .ref (ga g 111)), (3, .ref (ga g 110)), (2, .ref (ga g 89)), (1, .ref (ga g 0)), (0, .ref b)] dL_law_23 (by decide) rfl ?_
    refine V_iconst X dL_law_25 ?_
    refine V_istore X [(5, .int (iN 0)), (4, .ref (ga g 111)), (3, .ref (ga g 110)), (2, .ref (ga g 89)), (1, .ref (ga g 0)), (0, .ref b)] dL_law_26 (by decide) rfl ?_
    refine V_sub (lv' := lvL g b 0) [5, 4, 3, 2, 1, 0] rfl ?_
    exact law_loop g l hl9 hr hgh X hX hbl hbA hL (by decide) (by decide) ⟨0, 0, 0, 0, s0_J⟩
  rw [lg_entry_eq]
  exact key s.heap [] _ ⟨fun k q h => by simp [PC] at h, hgh.symm⟩ va_S.rf (lv_entry ([.ref b]) (n := 9) (Nat.le_of_ble_eq_true rfl))
