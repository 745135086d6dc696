/-! ===== the reference: drive, the season, figures ===== -/
theorem asP_irr {p w : Nat → Int} {o i : Nat} (h : o = i) : ¬ asP p w o i := by subst h; unfold asP; omega
def FrN (σ u : St) : Prop := (∀ a, a ≠ 109 → u.1 a = σ.1 a) ∧ u.2 = σ.2 ∧ RG u
theorem FrN.rf {σ : St} (h : RG σ) : FrN σ σ := ⟨fun _ _ => rfl, rfl, h⟩
theorem FrN.tr {σ u v : St} (h : FrN σ u) (h2 : FrN u v) : FrN σ v := ⟨fun a q => (h2.1 a q).trans (h.1 a q), h2.2.1.trans h.2.1, h2.2.2⟩
theorem FrN.sw {σ u : St} (h : FrN σ u) (k : Nat) {v : Int} (hv : R32 v) : FrN σ (sw u 109 k v) := ⟨fun a q => by rw [sw_ne q]; exact h.1 a q, h.2.1, h.2.2.sw _ _ hv⟩
theorem frN_M {σ u : St} {v : Int} (h : FrN (sw σ 89 0 v) u) : u.1 89 0 = v ∧ FrM σ u := by
  refine ⟨by rw [h.1 89 (by decide), rd_s], fun a q1 q2 => by rw [h.1 a q2, sw_ne q1], fun k q1 q2 => by rw [h.1 89 (by decide), rd_k q1], h.2.1, h.2.2⟩
theorem MB.frN {σ u : St} {n : Nat} (h : MB σ n) (f : FrN σ u) : MB u n := by
  refine ⟨by rw [f.1 89 (by decide)]; exact h.1, h.2.1, fun l hl => ?_⟩
  have := h.2.2 l hl
  unfold MR at this ⊢
  rw [f.1 98 (by decide), f.1 99 (by decide), f.1 100 (by decide), f.1 104 (by decide), f.1 106 (by decide), f.1 107 (by decide)]
  exact this
def selM (σ : St) (r d : Int) (l : Nat) : Bool := decide ((σ.1 105 l = r ∧ σ.1 101 l = d) ∧ σ.1 107 l = 0)
def lapM (σ : St) (n : Nat) (r d : Int) : Int := bestF (selM σ r d) (cntM σ) n
theorem lapM_b {σ : St} {n : Nat} {r d : Int} : -1 ≤ lapM σ n r d ∧ lapM σ n r d < n := bestF_b n
theorem lapM_fr {σ u : St} {n : Nat} (f : FrN σ u) : lapM u n = lapM σ n := by
  funext r d
  have e1 : selM u r d = selM σ r d := by funext l; unfold selM; rw [f.1 105 (by decide), f.1 101 (by decide), f.1 107 (by decide)]
  have e2 : cntM u = cntM σ := by funext l; unfold cntM; rw [f.1 99 (by decide), f.1 100 (by decide)]
  unfold lapM
  rw [e1, e2]
noncomputable def plS (σ : St) (n : Nat) (r d : Int) : Nat → Int := sumF (fun o => ahI (cntM σ) n (lapM σ n r (o : Int)) (lapM σ n r d))
noncomputable def plcM (σ : St) (n : Nat) (r d : Int) : Int := if lapM σ n r d = -1 then 0 else plS σ n r d 6 + 1
theorem plS_b {σ : St} {n : Nat} {r d : Int} (i : Nat) : 0 ≤ plS σ n r d i ∧ plS σ n r d i ≤ i := by
  have := sumF_b (f := fun o => ahI (cntM σ) n (lapM σ n r (o : Int)) (lapM σ n r d)) (c := 1) (fun l => ahI_b) i
  unfold plS
  omega
theorem plcM_b {σ : St} {n : Nat} {r d : Int} : 0 ≤ plcM σ n r d ∧ plcM σ n r d ≤ 7 ∧ (plcM σ n r d = 0 ↔ lapM σ n r d = -1) := by
  have := plS_b (σ := σ) (n := n) (r := r) (d := d) 6
  unfold plcM
  split
  · exact ⟨by omega, by omega, ⟨fun _ => by assumption, fun _ => rfl⟩⟩
  · exact ⟨by omega, by omega, ⟨fun h => by omega, fun h => absurd h (by assumption)⟩⟩
theorem cntM_fr {σ u : St} (f : FrN σ u) : cntM u = cntM σ := by funext l; unfold cntM; rw [f.1 99 (by decide), f.1 100 (by decide)]
theorem plcM_fr {σ u : St} {n : Nat} (f : FrN σ u) : plcM u n = plcM σ n := by
  funext r d
  unfold plcM plS
  rw [lapM_fr f, cntM_fr f]
def wthM (p : Int) : Int := if p = 0 then 0 else if p = 1 then 10 else if p = 2 then 8 else 9 - p
noncomputable def scM (σ : St) (n : Nat) (d : Int) (r : Nat) : Int := wthM (plcM σ n (r : Int) d)
theorem scM_b {σ : St} {n r : Nat} {d : Int} : 0 ≤ scM σ n d r ∧ scM σ n d r ≤ 10 := by
  have := plcM_b (σ := σ) (n := n) (r := (r : Int)) (d := d)
  unfold scM wthM
  split
  · omega
  · split
    · omega
    · split <;> omega
noncomputable def drM (σ : St) (n R : Nat) (d : Int) (j : Nat) : (Nat → Int) × Int := drF 99 R (scM σ n d) (sumF (scM σ n d) R) j
noncomputable def ptsM (σ : St) (n R D : Nat) (d : Int) : Int := (drM σ n R d (if D ≤ R then D else R)).2
noncomputable def wnM (σ : St) (n : Nat) (d : Int) (r : Nat) : Int := if plcM σ n (r : Int) d = 1 then 1 else 0
noncomputable def wonM (σ : St) (n R : Nat) (d : Int) : Int := sumF (wnM σ n d) R
theorem scM_fr {σ u : St} {n : Nat} {d : Int} (f : FrN σ u) : scM u n d = scM σ n d := by
  funext r
  unfold scM
  rw [plcM_fr f]
theorem ptsM_fr {σ u : St} {n R D : Nat} {d : Int} (f : FrN σ u) : ptsM u n R D d = ptsM σ n R D d := by
  unfold ptsM drM
  rw [scM_fr f]
theorem wonM_fr {σ u : St} {n R : Nat} {d : Int} (f : FrN σ u) : wonM u n R d = wonM σ n R d := by
  unfold wonM wnM
  rw [plcM_fr f]
theorem wonM_b {σ : St} {n R : Nat} {d : Int} : 0 ≤ wonM σ n R d ∧ wonM σ n R d ≤ R := by
  have := sumF_b (f := wnM σ n d) (c := 1) (fun l => by unfold wnM; split <;> omega) R
  unfold wonM
  omega
theorem ptsM_b {σ : St} {n R D : Nat} {d : Int} (hR : R ≤ 10) : -1000 ≤ ptsM σ n R D d ∧ ptsM σ n R D d ≤ 1000 := by
  have h0 := sumF_b (f := scM σ n d) (c := 10) (fun l => scM_b) R
  have h1 := drF_s (B := 99) (R := R) (a := scM σ n d) (s := sumF (scM σ n d) R) (fun k _ => scM_b) (by decide) (if D ≤ R then D else R) (by split <;> omega)
  have : (if D ≤ R then D else R) ≤ R := by split <;> omega
  unfold ptsM drM
  omega
def PA (σ : St) (n : Nat) (d : Int) (i : Nat) (u : St) : Prop := FrN σ u ∧ ∀ k, k < i → u.1 109 k = scM σ n d k
theorem PA_step {σ u v : St} {n i : Nat} {d z : Int} (h : PA σ n d i u) (hv : v = sw u 109 i z) (hz : z = scM σ n d i) : PA σ n d (i + 1) v := by
  subst hv
  have hb := scM_b (σ := σ) (n := n) (d := d) (r := i)
  refine ⟨h.1.sw i ⟨by omega, by omega⟩, fun k hk => ?_⟩
  by_cases e : k = i
  · subst e; rw [rd_s]; exact hz
  · rw [rd_k e]; exact h.2 k (by omega)
def PD (σ : St) (n R : Nat) (d : Int) (j : Nat) (u : St) : Prop := FrN σ u ∧ ∀ k, k < R → u.1 109 k = (drM σ n R d j).1 k
theorem PD_am {σ u : St} {n R j : Nat} {d : Int} (h : PD σ n R d j u) (hR : 0 < R) : amG (u.1 109) R = amG (drM σ n R d j).1 R ∧ amG (u.1 109) R < R := by
  have e : amG (u.1 109) R = amG (drM σ n R d j).1 R := amG_congr R (fun k hk => h.2 k hk)
  refine ⟨e, ?_⟩
  obtain ⟨m, rfl⟩ : ∃ m, R = m + 1 := ⟨R - 1, by omega⟩
  exact amG_lt m
theorem PD_step {σ u : St} {n R j : Nat} {d : Int} (h : PD σ n R d j u) (hj : j < R) : PD σ n R d (j + 1) (sw u 109 (amG (u.1 109) R) 99) := by
  have ha := PD_am h (by omega)
  refine ⟨h.1.sw _ ⟨by decide, by decide⟩, fun k hk => ?_⟩
  rw [sw_get, ha.1]
  show _ = ur _ _ _ k
  unfold ur
  by_cases q : k = amG (drM σ n R d j).1 R
  · rw [if_pos ⟨rfl, q⟩]
    exact (if_pos q).symm
  · rw [if_neg (fun z => q z.2), h.2 k hk]
    exact (if_neg q).symm
theorem PD_v {σ u : St} {n R j : Nat} {d : Int} (h : PD σ n R d j u) (hj : j < R) : (drM σ n R d j).2 - u.1 109 (amG (u.1 109) R) = (drM σ n R d (j + 1)).2 := by
  have ha := PD_am h (by omega)
  rw [h.2 _ ha.2, ha.1]
  rfl
theorem drM_b {σ : St} {n R j : Nat} {d : Int} (hR : R ≤ 10) (hj : j ≤ R) : -1000 ≤ (drM σ n R d j).2 ∧ (drM σ n R d j).2 ≤ 1000 := by
  have h0 := sumF_b (f := scM σ n d) (c := 10) (fun l => scM_b) R
  have h1 := drF_s (B := 99) (R := R) (a := scM σ n d) (s := sumF (scM σ n d) R) (fun k _ => scM_b) (by decide) j hj
  unfold drM
  omega
theorem drM_v {σ u : St} {n R j : Nat} {d : Int} (h : PD σ n R d j u) (hj : j < R) : 0 ≤ u.1 109 (amG (u.1 109) R) ∧ u.1 109 (amG (u.1 109) R) ≤ 10 := by
  have ha := PD_am h (by omega)
  rw [h.2 _ ha.2, ha.1]
  exact drF_low (B := 99) (R := R) (a := scM σ n d) (s := sumF (scM σ n d) R) (fun k _ => scM_b) (by decide) hj
def ckM (σ : St) : Nat → Int
  | 0 => 7
  | i + 1 => 31 * ckM σ i + σ.1 99 i + σ.1 100 i + prtM σ i + (if σ.1 107 i = 0 then 1 else 0)
def mtM (σ : St) : Nat → Int := sumF (fun l => if σ.1 107 l = 0 then cntM σ l else 0)
theorem mtM_b {σ : St} {i : Nat} (h : 0 ≤ cntM σ i ∧ cntM σ i ≤ 1009999) (hb : 0 ≤ mtM σ i ∧ mtM σ i ≤ 1100000 * i) : 0 ≤ mtM σ (i + 1) ∧ mtM σ (i + 1) ≤ 1100000 * ((i + 1 : Nat) : Int) := by
  have e : mtM σ (i + 1) = mtM σ i + (if σ.1 107 i = 0 then cntM σ i else 0) := rfl
  rw [e]
  split <;> omega

set_option maxRecDepth 100000 in
set_option maxHeartbeats 4000000 in
theorem m_X7_lapNow (g : Geo) (l : Launch) (hl9 : l.stackTraces = false) (σ : St) (hR : RG σ) (n : Nat) (hMB : MB σ n) (r d : Int) (hr0 : R32 r) (hd0 : R32 d) : Met l yX7_lapNow wsX7_lapNow ({ frames := 1, cells := 0, slots := 0, locals := 21 }) (va_Pc [.ref (ga g (89)), .int (iN (r)), .int (iN (d))] (World g σ)) (QI g (fun z u => z = lapM σ n r d ∧ u = σ)) 0 0 (gA g) := by
  refine V_met hl9 (by decide) rfl (Nat.le_of_ble_eq_true rfl) ?_
  intro p9 e9 s9 m9 b9 t9 c9 X hr _
  have hn := hMB.1
  have hn30 := hMB.2.1
  have hL4 : 0 ≤ σ.1 89 11 ∧ σ.1 89 11 ≤ 30 := by omega
  refine V_lv (lv' := [(0, .ref (ga g (89))), (1, .int (iN (r))), (2, .int (iN (d)))]) rfl ?_
  refine V_iconst X dX7_lapNow_0 ?_
  refine V_istore_n X [(3, .int (iN (-1))), (0, .ref (ga g (89))), (1, .int (iN (r))), (2, .int (iN (d)))] dX7_lapNow_1 rfl (by decide) rfl ?_
  refine V_iconst X dX7_lapNow_2 ?_
  refine V_istore X [(4, .int (iN (0))), (3, .int (iN (-1))), (0, .ref (ga g (89))), (1, .int (iN (r))), (2, .int (iN (d)))] dX7_lapNow_3 (by decide) rfl ?_
  refine V_sub (lv' := [(0, .ref (ga g (89))), (1, .int (iN (r))), (2, .int (iN (d))), (3, .int (iN (-1))), (4, .int (iN (0)))]) [2, 3, 4, 1, 0] rfl ?_
  refine V_up (N := n) (fun (i : Nat) (u : St) (lw : List (Nat × Value)) => σ = u ∧ [(0, .ref (ga g (89))), (1, .int (iN (r))), (2, .int (iN (d))), (3, .int (iN (bestF (selM σ r d) (cntM σ) i))), (4, .int (iN (((i : Nat) : Int))))] = lw ∧ (True)) (i0 := 0) (Nat.zero_le _) ⟨rfl, rfl, trivial⟩ ?_ ?_
  · skip
    rintro _ _ ⟨rfl, rfl, -⟩
    have hbi := bestF_b (sel := selM σ r d) (cnt := cntM σ) n
    refine V_iload X 4 rfl dX7_lapNow_5 ?_
    refine V_aload_n X 0 rfl dX7_lapNow_7 rfl ?_
    refine V_get X (ci := 7) (89) (by decide) (rfl) (by decide) rfl (fun _ h => List.mem_cons_of_mem _ (List.mem_append_right _ h)) 11 (by decide) (List.mem_of_getElem? (i := 1) rfl) rfl rfl dX7_lapNow_8 ?_
    refine V_icmp_ge X 90 ⟨by omega, by omega⟩ (hR _ _) dX7_lapNow_11 (by decide) (fun _ => ?_) (fun h => absurd h (by omega))
    refine V_iload_n X 3 rfl dX7_lapNow_90 rfl ?_
    exact V_iret X hr rfl ⟨by omega, by omega⟩ (by exact ⟨rfl, rfl⟩) dX7_lapNow_91 (by decide) (by decide)
  · skip
    rintro i _ _ hiN ⟨rfl, rfl, -⟩ kk
    have hbi := bestF_b (sel := selM σ r d) (cnt := cntM σ) i
    have htt := hMB.2.2 i hiN
    refine V_iload X 4 rfl dX7_lapNow_5 ?_
    refine V_aload_n X 0 rfl dX7_lapNow_7 rfl ?_
    refine V_get X (ci := 7) (89) (by decide) (rfl) (by decide) rfl (fun _ h => List.mem_cons_of_mem _ (List.mem_append_right _ h)) 11 (by decide) (List.mem_of_getElem? (i := 1) rfl) rfl rfl dX7_lapNow_8 ?_
    refine V_icmp_ge X 90 ⟨by omega, by omega⟩ (hR _ _) dX7_lapNow_11 (by decide) (fun h => absurd h (by omega)) (fun _ => ?_)
    refine V_aload_n X 0 rfl dX7_lapNow_14 rfl ?_
    refine V_get X (ci := 7) (89) (by decide) (rfl) (by decide) rfl (fun _ h => List.mem_cons_of_mem _ (List.mem_append_right _ h)) 20 (by decide) (List.mem_of_getElem? (i := 2) rfl) rfl rfl dX7_lapNow_15 ?_
    refine V_iload X 4 rfl dX7_lapNow_18 ?_
    refine V_iald X (N := 30) (105) (by decide) (rfl) (rfl) (by decide) (i) (rfl) (by omega) dX7_lapNow_20 ?_
    refine V_iload_n X 1 rfl dX7_lapNow_21 rfl ?_
    refine V_icmp_ne X 50 (hR _ _) hr0 dX7_lapNow_22 (by decide) (fun q1 => ?_) (fun q1 => ?_)
    · skip
      refine V_iconst X dX7_lapNow_50 ?_
      refine V_istore X [(5, .int (iN (0))), (0, .ref (ga g (89))), (1, .int (iN (r))), (2, .int (iN (d))), (3, .int (iN (bestF (selM σ r d) (cntM σ) i))), (4, .int (iN (((i : Nat) : Int))))] dX7_lapNow_51 (by decide) rfl ?_
      refine V_iload X 0 rfl dX7_lapNow_53 ?_
      refine V_if_eq X 82 ⟨by decide, by decide⟩ dX7_lapNow_55 (by decide) (fun _ => ?_) (fun h => absurd h (by first | decide | omega))
      refine V_iload_n X 4 rfl dX7_lapNow_82 rfl ?_
      refine V_istore_n X [(3, .int (iN (bestF (selM σ r d) (cntM σ) i))), (5, .int (iN (0))), (0, .ref (ga g (89))), (1, .int (iN (r))), (2, .int (iN (d))), (4, .int (iN (((i : Nat) : Int))))] dX7_lapNow_83 rfl (by decide) rfl ?_
      refine V_iinc X [(4, .int (iN (((i : Nat) : Int) + 1))), (3, .int (iN (bestF (selM σ r d) (cntM σ) i))), (5, .int (iN (0))), (0, .ref (ga g (89))), (1, .int (iN (r))), (2, .int (iN (d)))] 5 (((i : Nat) : Int) + 1) (rfl) rfl dX7_lapNow_84 (by decide) rfl ?_
      refine V_goto X 5 dX7_lapNow_87 (by decide) ?_
      refine V_sub (lv' := [(0, .ref (ga g (89))), (1, .int (iN (r))), (2, .int (iN (d))), (3, .int (iN (bestF (selM σ r d) (cntM σ) i))), (4, .int (iN (((i : Nat) : Int) + 1)))]) [3, 4, 5, 1, 0] rfl ?_
      refine V_lv (congrArg (fun q : Int => ([(0, .ref (ga g (89))), (1, .int (iN (r))), (2, .int (iN (d))), (3, .int (iN q)), (4, .int (iN (((i : Nat) : Int) + 1)))] : List (Nat × Value))) (show bestF (selM σ r d) (cntM σ) i = bestF (selM σ r d) (cntM σ) (i + 1) from best_q (fun q => by have q1 := q.1; unfold selM at q1; simp at q1; omega))) ?_
      refine V_lv (congrArg (fun q : Int => ([(0, .ref (ga g (89))), (1, .int (iN (r))), (2, .int (iN (d))), (3, .int (iN (bestF (selM σ r d) (cntM σ) (i + 1)))), (4, .int (iN q))] : List (Nat × Value))) (show ((i : Nat) : Int) + 1 = (((i + 1) : Nat) : Int) from by omega)) ?_
      exact kk _ _ ⟨rfl, rfl, trivial⟩
    · skip
      refine V_aload_n X 0 rfl dX7_lapNow_25 rfl ?_
      refine V_get X (ci := 7) (89) (by decide) (rfl) (by decide) rfl (fun _ h => List.mem_cons_of_mem _ (List.mem_append_right _ h)) 16 (by decide) (List.mem_of_getElem? (i := 3) rfl) rfl rfl dX7_lapNow_26 ?_
      refine V_iload X 4 rfl dX7_lapNow_29 ?_
      refine V_iald X (N := 30) (101) (by decide) (rfl) (rfl) (by decide) (i) (rfl) (by omega) dX7_lapNow_31 ?_
      refine V_iload_n X 2 rfl dX7_lapNow_32 rfl ?_
      refine V_icmp_ne X 50 (hR _ _) hd0 dX7_lapNow_33 (by decide) (fun q2 => ?_) (fun q2 => ?_)
      · skip
        refine V_iconst X dX7_lapNow_50 ?_
        refine V_istore X [(5, .int (iN (0))), (0, .ref (ga g (89))), (1, .int (iN (r))), (2, .int (iN (d))), (3, .int (iN (bestF (selM σ r d) (cntM σ) i))), (4, .int (iN (((i : Nat) : Int))))] dX7_lapNow_51 (by decide) rfl ?_
        refine V_iload X 0 rfl dX7_lapNow_53 ?_
        refine V_if_eq X 82 ⟨by decide, by decide⟩ dX7_lapNow_55 (by decide) (fun _ => ?_) (fun h => absurd h (by first | decide | omega))
        refine V_iload_n X 4 rfl dX7_lapNow_82 rfl ?_
        refine V_istore_n X [(3, .int (iN (bestF (selM σ r d) (cntM σ) i))), (5, .int (iN (0))), (0, .ref (ga g (89))), (1, .int (iN (r))), (2, .int (iN (d))), (4, .int (iN (((i : Nat) : Int))))] dX7_lapNow_83 rfl (by decide) rfl ?_
        refine V_iinc X [(4, .int (iN (((i : Nat) : Int) + 1))), (3, .int (iN (bestF (selM σ r d) (cntM σ) i))), (5, .int (iN (0))), (0, .ref (ga g (89))), (1, .int (iN (r))), (2, .int (iN (d)))] 5 (((i : Nat) : Int) + 1) (rfl) rfl dX7_lapNow_84 (by decide) rfl ?_
        refine V_goto X 5 dX7_lapNow_87 (by decide) ?_
        refine V_sub (lv' := [(0, .ref (ga g (89))), (1, .int (iN (r))), (2, .int (iN (d))), (3, .int (iN (bestF (selM σ r d) (cntM σ) i))), (4, .int (iN (((i : Nat) : Int) + 1)))]) [3, 4, 5, 1, 0] rfl ?_
        refine V_lv (congrArg (fun q : Int => ([(0, .ref (ga g (89))), (1, .int (iN (r))), (2, .int (iN (d))), (3, .int (iN q)), (4, .int (iN (((i : Nat) : Int) + 1)))] : List (Nat × Value))) (show bestF (selM σ r d) (cntM σ) i = bestF (selM σ r d) (cntM σ) (i + 1) from best_q (fun q => by have q1 := q.1; unfold selM at q1; simp at q1; omega))) ?_
        refine V_lv (congrArg (fun q : Int => ([(0, .ref (ga g (89))), (1, .int (iN (r))), (2, .int (iN (d))), (3, .int (iN (bestF (selM σ r d) (cntM σ) (i + 1)))), (4, .int (iN q))] : List (Nat × Value))) (show ((i : Nat) : Int) + 1 = (((i + 1) : Nat) : Int) from by omega)) ?_
        exact kk _ _ ⟨rfl, rfl, trivial⟩
      · skip
        refine V_aload_n X 0 rfl dX7_lapNow_36 rfl ?_
        refine V_get X (ci := 7) (89) (by decide) (rfl) (by decide) rfl (fun _ h => List.mem_cons_of_mem _ (List.mem_append_right _ h)) 22 (by decide) (List.mem_of_getElem? (i := 4) rfl) rfl rfl dX7_lapNow_37 ?_
        refine V_iload X 4 rfl dX7_lapNow_40 ?_
        refine V_zald X (N := 30) (107) (by decide) (rfl) (rfl) (by decide) (i) (rfl) (by omega) dX7_lapNow_42 ?_
        refine V_if_ne X 50 (hR _ _) dX7_lapNow_43 (by decide) (fun q3 => ?_) (fun q3 => ?_)
        · skip
          refine V_iconst X dX7_lapNow_50 ?_
          refine V_istore X [(5, .int (iN (0))), (0, .ref (ga g (89))), (1, .int (iN (r))), (2, .int (iN (d))), (3, .int (iN (bestF (selM σ r d) (cntM σ) i))), (4, .int (iN (((i : Nat) : Int))))] dX7_lapNow_51 (by decide) rfl ?_
          refine V_iload X 0 rfl dX7_lapNow_53 ?_
          refine V_if_eq X 82 ⟨by decide, by decide⟩ dX7_lapNow_55 (by decide) (fun _ => ?_) (fun h => absurd h (by first | decide | omega))
          refine V_iload_n X 4 rfl dX7_lapNow_82 rfl ?_
          refine V_istore_n X [(3, .int (iN (bestF (selM σ r d) (cntM σ) i))), (5, .int (iN (0))), (0, .ref (ga g (89))), (1, .int (iN (r))), (2, .int (iN (d))), (4, .int (iN (((i : Nat) : Int))))] dX7_lapNow_83 rfl (by decide) rfl ?_
          refine V_iinc X [(4, .int (iN (((i : Nat) : Int) + 1))), (3, .int (iN (bestF (selM σ r d) (cntM σ) i))), (5, .int (iN (0))), (0, .ref (ga g (89))), (1, .int (iN (r))), (2, .int (iN (d)))] 5 (((i : Nat) : Int) + 1) (rfl) rfl dX7_lapNow_84 (by decide) rfl ?_
          refine V_goto X 5 dX7_lapNow_87 (by decide) ?_
          refine V_sub (lv' := [(0, .ref (ga g (89))), (1, .int (iN (r))), (2, .int (iN (d))), (3, .int (iN (bestF (selM σ r d) (cntM σ) i))), (4, .int (iN (((i : Nat) : Int) + 1)))]) [3, 4, 5, 1, 0] rfl ?_
          refine V_lv (congrArg (fun q : Int => ([(0, .ref (ga g (89))), (1, .int (iN (r))), (2, .int (iN (d))), (3, .int (iN q)), (4, .int (iN (((i : Nat) : Int) + 1)))] : List (Nat × Value))) (show bestF (selM σ r d) (cntM σ) i = bestF (selM σ r d) (cntM σ) (i + 1) from best_q (fun q => by have q1 := q.1; unfold selM at q1; simp at q1; omega))) ?_
          refine V_lv (congrArg (fun q : Int => ([(0, .ref (ga g (89))), (1, .int (iN (r))), (2, .int (iN (d))), (3, .int (iN (bestF (selM σ r d) (cntM σ) (i + 1)))), (4, .int (iN q))] : List (Nat × Value))) (show ((i : Nat) : Int) + 1 = (((i + 1) : Nat) : Int) from by omega)) ?_
          exact kk _ _ ⟨rfl, rfl, trivial⟩
        · skip
          refine V_iconst X dX7_lapNow_46 ?_
          refine V_goto X 51 dX7_lapNow_47 (by decide) ?_
          refine V_istore X [(5, .int (iN (1))), (0, .ref (ga g (89))), (1, .int (iN (r))), (2, .int (iN (d))), (3, .int (iN (bestF (selM σ r d) (cntM σ) i))), (4, .int (iN (((i : Nat) : Int))))] dX7_lapNow_51 (by decide) rfl ?_
          refine V_iload X 0 rfl dX7_lapNow_53 ?_
          refine V_if_eq X 82 ⟨by decide, by decide⟩ dX7_lapNow_55 (by decide) (fun h => absurd h (by first | decide | omega)) (fun _ => ?_)
          refine V_iload_n X 4 rfl dX7_lapNow_58 rfl ?_
          refine V_iconst X dX7_lapNow_59 ?_
          refine V_icmp_eq X 77 ⟨by omega, by omega⟩ ⟨by decide, by decide⟩ dX7_lapNow_60 (by decide) (fun q4 => ?_) (fun q4 => ?_)
          · skip
            refine V_iload X 5 rfl dX7_lapNow_77 ?_
            refine V_goto X 83 dX7_lapNow_79 (by decide) ?_
            refine V_istore_n X [(3, .int (iN (((i : Nat) : Int)))), (5, .int (iN (1))), (0, .ref (ga g (89))), (1, .int (iN (r))), (2, .int (iN (d))), (4, .int (iN (((i : Nat) : Int))))] dX7_lapNow_83 rfl (by decide) rfl ?_
            refine V_iinc X [(4, .int (iN (((i : Nat) : Int) + 1))), (3, .int (iN (((i : Nat) : Int)))), (5, .int (iN (1))), (0, .ref (ga g (89))), (1, .int (iN (r))), (2, .int (iN (d)))] 5 (((i : Nat) : Int) + 1) (rfl) rfl dX7_lapNow_84 (by decide) rfl ?_
            refine V_goto X 5 dX7_lapNow_87 (by decide) ?_
            refine V_sub (lv' := [(0, .ref (ga g (89))), (1, .int (iN (r))), (2, .int (iN (d))), (3, .int (iN (((i : Nat) : Int)))), (4, .int (iN (((i : Nat) : Int) + 1)))]) [3, 4, 5, 1, 0] rfl ?_
            refine V_lv (congrArg (fun q : Int => ([(0, .ref (ga g (89))), (1, .int (iN (r))), (2, .int (iN (d))), (3, .int (iN q)), (4, .int (iN (((i : Nat) : Int) + 1)))] : List (Nat × Value))) (show ((i : Nat) : Int) = bestF (selM σ r d) (cntM σ) (i + 1) from best_p (by unfold selM; simp; omega) (by omega))) ?_
            refine V_lv (congrArg (fun q : Int => ([(0, .ref (ga g (89))), (1, .int (iN (r))), (2, .int (iN (d))), (3, .int (iN (bestF (selM σ r d) (cntM σ) (i + 1)))), (4, .int (iN q))] : List (Nat × Value))) (show ((i : Nat) : Int) + 1 = (((i + 1) : Nat) : Int) from by omega)) ?_
            exact kk _ _ ⟨rfl, rfl, trivial⟩
          · skip
            refine V_aload_n X 1 rfl dX7_lapNow_63 rfl ?_
            refine V_iload X 5 rfl dX7_lapNow_64 ?_
            have hc66 := hMB.cnt (l := i) (by omega)
            refine V_callV_I X (na := 1) (ci := 7) (b0 := 89) (by decide) (rfl) (by decide) rfl (m_X7_countOf g l hl9 σ hR (((i : Nat) : Int)) (by omega) (by show -2147483648 ≤ cntM σ (i); omega) (by show cntM σ (i) ≤ _; omega)) gX7_lapNow_X7_countOf rfl rfl rfl (by decide +kernel) ⟨Nat.le_of_ble_eq_true rfl, Nat.le_of_ble_eq_true rfl⟩ rfl rfl (Nat.le_of_ble_eq_true rfl) ⟨Nat.le_of_ble_eq_true rfl, Nat.le_of_ble_eq_true rfl⟩ dX7_lapNow_66 (fun z5 u6 z5r hp7 => ?_)
            obtain ⟨hz66, hu8⟩ := hp7
            have hu8 := hu8.symm
            subst hu8
            have hy66 : z5 = cntM σ (i) := hz66
            subst hy66
            refine V_aload_n X 1 rfl dX7_lapNow_69 rfl ?_
            refine V_iload_n X 4 rfl dX7_lapNow_70 rfl ?_
            have hc71 := hMB.cnt (l := (bestF (selM σ r d) (cntM σ) i).toNat) (by omega)
            refine V_callV_I X (na := 1) (ci := 7) (b0 := 89) (by decide) (rfl) (by decide) rfl (m_X7_countOf g l hl9 σ hR (bestF (selM σ r d) (cntM σ) i) (by omega) (by show -2147483648 ≤ cntM σ ((bestF (selM σ r d) (cntM σ) i).toNat); omega) (by show cntM σ ((bestF (selM σ r d) (cntM σ) i).toNat) ≤ _; omega)) gX7_lapNow_X7_countOf rfl rfl rfl (by decide +kernel) ⟨Nat.le_of_ble_eq_true rfl, Nat.le_of_ble_eq_true rfl⟩ rfl rfl (Nat.le_of_ble_eq_true rfl) ⟨Nat.le_of_ble_eq_true rfl, Nat.le_of_ble_eq_true rfl⟩ dX7_lapNow_71 (fun z9 u10 z9r hp11 => ?_)
            obtain ⟨hz71, hu12⟩ := hp11
            have hu12 := hu12.symm
            subst hu12
            have hy71 : z9 = cntM σ ((bestF (selM σ r d) (cntM σ) i).toNat) := hz71
            subst hy71
            refine V_icmp_ge X 82 ⟨by omega, by omega⟩ ⟨by omega, by omega⟩ dX7_lapNow_74 (by decide) (fun q13 => ?_) (fun q13 => ?_)
            · skip
              refine V_iload_n X 4 rfl dX7_lapNow_82 rfl ?_
              refine V_istore_n X [(3, .int (iN (bestF (selM σ r d) (cntM σ) i))), (5, .int (iN (1))), (0, .ref (ga g (89))), (1, .int (iN (r))), (2, .int (iN (d))), (4, .int (iN (((i : Nat) : Int))))] dX7_lapNow_83 rfl (by decide) rfl ?_
              refine V_iinc X [(4, .int (iN (((i : Nat) : Int) + 1))), (3, .int (iN (bestF (selM σ r d) (cntM σ) i))), (5, .int (iN (1))), (0, .ref (ga g (89))), (1, .int (iN (r))), (2, .int (iN (d)))] 5 (((i : Nat) : Int) + 1) (rfl) rfl dX7_lapNow_84 (by decide) rfl ?_
              refine V_goto X 5 dX7_lapNow_87 (by decide) ?_
              refine V_sub (lv' := [(0, .ref (ga g (89))), (1, .int (iN (r))), (2, .int (iN (d))), (3, .int (iN (bestF (selM σ r d) (cntM σ) i))), (4, .int (iN (((i : Nat) : Int) + 1)))]) [3, 4, 5, 1, 0] rfl ?_
              refine V_lv (congrArg (fun q : Int => ([(0, .ref (ga g (89))), (1, .int (iN (r))), (2, .int (iN (d))), (3, .int (iN q)), (4, .int (iN (((i : Nat) : Int) + 1)))] : List (Nat × Value))) (show bestF (selM σ r d) (cntM σ) i = bestF (selM σ r d) (cntM σ) (i + 1) from best_q (fun q => by have q1 := q.1; unfold selM at q1; simp at q1; omega))) ?_
              refine V_lv (congrArg (fun q : Int => ([(0, .ref (ga g (89))), (1, .int (iN (r))), (2, .int (iN (d))), (3, .int (iN (bestF (selM σ r d) (cntM σ) (i + 1)))), (4, .int (iN q))] : List (Nat × Value))) (show ((i : Nat) : Int) + 1 = (((i + 1) : Nat) : Int) from by omega)) ?_
              exact kk _ _ ⟨rfl, rfl, trivial⟩
            · skip
              refine V_iload X 5 rfl dX7_lapNow_77 ?_
              refine V_goto X 83 dX7_lapNow_79 (by decide) ?_
              refine V_istore_n X [(3, .int (iN (((i : Nat) : Int)))), (5, .int (iN (1))), (0, .ref (ga g (89))), (1, .int (iN (r))), (2, .int (iN (d))), (4, .int (iN (((i : Nat) : Int))))] dX7_lapNow_83 rfl (by decide) rfl ?_
              refine V_iinc X [(4, .int (iN (((i : Nat) : Int) + 1))), (3, .int (iN (((i : Nat) : Int)))), (5, .int (iN (1))), (0, .ref (ga g (89))), (1, .int (iN (r))), (2, .int (iN (d)))] 5 (((i : Nat) : Int) + 1) (rfl) rfl dX7_lapNow_84 (by decide) rfl ?_
              refine V_goto X 5 dX7_lapNow_87 (by decide) ?_
              refine V_sub (lv' := [(0, .ref (ga g (89))), (1, .int (iN (r))), (2, .int (iN (d))), (3, .int (iN (((i : Nat) : Int)))), (4, .int (iN (((i : Nat) : Int) + 1)))]) [3, 4, 5, 1, 0] rfl ?_
              refine V_lv (congrArg (fun q : Int => ([(0, .ref (ga g (89))), (1, .int (iN (r))), (2, .int (iN (d))), (3, .int (iN q)), (4, .int (iN (((i : Nat) : Int) + 1)))] : List (Nat × Value))) (show ((i : Nat) : Int) = bestF (selM σ r d) (cntM σ) (i + 1) from best_p (by unfold selM; simp; omega) (by omega))) ?_
              refine V_lv (congrArg (fun q : Int => ([(0, .ref (ga g (89))), (1, .int (iN (r))), (2, .int (iN (d))), (3, .int (iN (bestF (selM σ r d) (cntM σ) (i + 1)))), (4, .int (iN q))] : List (Nat × Value))) (show ((i : Nat) : Int) + 1 = (((i + 1) : Nat) : Int) from by omega)) ?_
              exact kk _ _ ⟨rfl, rfl, trivial⟩
set_option maxRecDepth 100000 in
set_option maxHeartbeats 4000000 in
theorem m_X7_isNoSeat (g : Geo) (l : Launch) (hl9 : l.stackTraces = false) (σ : St) (hR : RG σ) (hr10 : 0 ≤ σ.1 89 23 ∧ σ.1 89 23 ≤ 10) (r d : Int) (hr0 : R32 r) (hd0 : R32 d) : Met l yX7_isNoSeat wsX7_isNoSeat ({ frames := 1, cells := 0, slots := 0, locals := 22 }) (va_Pc [.ref (ga g (89)), .int (iN (r)), .int (iN (d))] (World g σ)) (QI g (fun z u => z = (if (0 ≤ r ∧ r < σ.1 89 23) ∧ 0 ≤ d ∧ d < 6 then 0 else 1) ∧ u = σ)) 0 0 (gA g) := by
  refine V_met hl9 (by decide) rfl (Nat.le_of_ble_eq_true rfl) ?_
  intro p9 e9 s9 m9 b9 t9 c9 X hr _
  refine V_lv (lv' := [(0, .ref (ga g (89))), (1, .int (iN (r))), (2, .int (iN (d)))]) rfl ?_
  refine V_iload_n X 1 rfl dX7_isNoSeat_0 rfl ?_
  refine V_iconst X dX7_isNoSeat_1 ?_
  refine V_aload_n X 0 rfl dX7_isNoSeat_2 rfl ?_
  refine V_get X (ci := 7) (89) (by decide) (rfl) (by decide) rfl (fun _ h => List.mem_cons_of_mem _ (List.mem_append_right _ h)) 23 (by decide) (List.mem_of_getElem? (i := 1) rfl) rfl rfl dX7_isNoSeat_3 ?_
  refine V_iconst X dX7_isNoSeat_6 ?_
  refine V_isub X dX7_isNoSeat_7 ?_
  refine V_callS_I X (na := 3) (m_X7_in g l hl9 σ r 0 (σ.1 89 23 - 1) hr0 ⟨by decide, by decide⟩ ⟨by omega, by omega⟩) gX7_isNoSeat_X7_in rfl rfl rfl (by decide +kernel) ⟨Nat.le_of_ble_eq_true rfl, Nat.le_of_ble_eq_true rfl⟩ rfl rfl (Nat.le_of_ble_eq_true rfl) ⟨Nat.le_of_ble_eq_true rfl, Nat.le_of_ble_eq_true rfl⟩ dX7_isNoSeat_8 (fun z1 u2 z1r hp3 => ?_)
  obtain ⟨hz9, hu4⟩ := hp3
  have hu4 := hu4.symm
  subst hu4
  rcases Classical.em (0 ≤ r ∧ r ≤ σ.1 89 23 - 1) with hw8 | hw8
  · skip
    rw [if_pos hw8] at hz9
    subst hz9
    refine V_if_eq X 23 ⟨by decide, by decide⟩ dX7_isNoSeat_11 (by decide) (fun h => absurd h (by first | decide | omega)) (fun _ => ?_)
    refine V_iload_n X 2 rfl dX7_isNoSeat_14 rfl ?_
    refine V_iconst X dX7_isNoSeat_15 ?_
    refine V_iconst X dX7_isNoSeat_16 ?_
    refine V_callS_I X (na := 3) (m_X7_in g l hl9 σ d 0 (5) hd0 ⟨by decide, by decide⟩ ⟨by decide, by decide⟩) gX7_isNoSeat_X7_in rfl rfl rfl (by decide +kernel) ⟨Nat.le_of_ble_eq_true rfl, Nat.le_of_ble_eq_true rfl⟩ rfl rfl (Nat.le_of_ble_eq_true rfl) ⟨Nat.le_of_ble_eq_true rfl, Nat.le_of_ble_eq_true rfl⟩ dX7_isNoSeat_17 (fun z5 u6 z5r hp7 => ?_)
    obtain ⟨hz9, hu8⟩ := hp7
    have hu8 := hu8.symm
    subst hu8
    rcases Classical.em (0 ≤ d ∧ d ≤ 5) with hw17 | hw17
    · skip
      rw [if_pos hw17] at hz9
      subst hz9
      refine V_if_ne X 27 ⟨by decide, by decide⟩ dX7_isNoSeat_20 (by decide) (fun _ => ?_) (fun h => absurd h (by first | decide | omega))
      refine V_iconst X dX7_isNoSeat_27 ?_
      exact V_iret X hr (iN_bool (Or.inl rfl)).1 ⟨by decide, by decide⟩ (by exact ⟨by rw [if_pos (by omega)], rfl⟩) dX7_isNoSeat_28 (by decide) (by decide)
    · skip
      rw [if_neg hw17] at hz9
      subst hz9
      refine V_if_ne X 27 ⟨by decide, by decide⟩ dX7_isNoSeat_20 (by decide) (fun h => absurd h (by first | decide | omega)) (fun _ => ?_)
      refine V_iconst X dX7_isNoSeat_23 ?_
      refine V_goto X 28 dX7_isNoSeat_24 (by decide) ?_
      exact V_iret X hr (iN_bool (Or.inr rfl)).1 ⟨by decide, by decide⟩ (by exact ⟨by rw [if_neg (by omega)], rfl⟩) dX7_isNoSeat_28 (by decide) (by decide)
  · skip
    rw [if_neg hw8] at hz9
    subst hz9
    refine V_if_eq X 23 ⟨by decide, by decide⟩ dX7_isNoSeat_11 (by decide) (fun _ => ?_) (fun h => absurd h (by first | decide | omega))
    refine V_iconst X dX7_isNoSeat_23 ?_
    refine V_goto X 28 dX7_isNoSeat_24 (by decide) ?_
    exact V_iret X hr (iN_bool (Or.inr rfl)).1 ⟨by decide, by decide⟩ (by exact ⟨by rw [if_neg (by omega)], rfl⟩) dX7_isNoSeat_28 (by decide) (by decide)
set_option maxRecDepth 100000 in
set_option maxHeartbeats 4000000 in
theorem m_X7_lapIn (g : Geo) (l : Launch) (hl9 : l.stackTraces = false) (σ : St) (hR : RG σ) (n : Nat) (hMB : MB σ n) (hr10 : 0 ≤ σ.1 89 23 ∧ σ.1 89 23 ≤ 10) (r d : Int) (hr0 : R32 r) (hd0 : R32 d) : Met l yX7_lapIn wsX7_lapIn ({ frames := 2, cells := 0, slots := 0, locals := 46 }) (va_Pc [.ref (ga g (89)), .int (iN (r)), .int (iN (d))] (World g σ)) (QI g (fun z u => (((0 ≤ r ∧ r < σ.1 89 23) ∧ 0 ≤ d ∧ d < 6) ∧ ¬ lapM σ n r d = -1 ∧ z = lapM σ n r d ∧ u = sw σ 89 0 0) ∨ (¬ ((0 ≤ r ∧ r < σ.1 89 23) ∧ 0 ≤ d ∧ d < 6) ∧ u = sw σ 89 0 1) ∨ (((0 ≤ r ∧ r < σ.1 89 23) ∧ 0 ≤ d ∧ d < 6) ∧ lapM σ n r d = -1 ∧ u = sw σ 89 0 2))) 0 0 (gA g) := by
  refine V_met hl9 (by decide) rfl (Nat.le_of_ble_eq_true rfl) ?_
  intro p9 e9 s9 m9 b9 t9 c9 X hr _
  have hn := hMB.1
  have hn30 := hMB.2.1
  have hL4 : 0 ≤ σ.1 89 11 ∧ σ.1 89 11 ≤ 30 := by omega
  refine V_lv (lv' := [(0, .ref (ga g (89))), (1, .int (iN (r))), (2, .int (iN (d)))]) rfl ?_
  refine V_aload_n X 0 rfl dX7_lapIn_0 rfl ?_
  refine V_iload_n X 1 rfl dX7_lapIn_1 rfl ?_
  refine V_iload_n X 2 rfl dX7_lapIn_2 rfl ?_
  refine V_callV_I X (na := 2) (ci := 7) (b0 := 89) (by decide) (rfl) (by decide) rfl (m_X7_lapNow g l hl9 σ hR n hMB r d hr0 hd0) gX7_lapIn_X7_lapNow rfl rfl rfl (by decide +kernel) ⟨Nat.le_of_ble_eq_true rfl, Nat.le_of_ble_eq_true rfl⟩ rfl rfl (Nat.le_of_ble_eq_true rfl) ⟨Nat.le_of_ble_eq_true rfl, Nat.le_of_ble_eq_true rfl⟩ dX7_lapIn_3 (fun z1 u2 z1r hp3 => ?_)
  obtain ⟨hz, hu4⟩ := hp3
  have hu4 := hu4.symm
  subst hu4
  refine V_istore_n X [(3, .int (iN (z1))), (0, .ref (ga g (89))), (1, .int (iN (r))), (2, .int (iN (d)))] dX7_lapIn_6 rfl (by decide) rfl ?_
  refine V_aload_n X 1 rfl dX7_lapIn_7 rfl ?_
  refine V_aload_n X 1 rfl dX7_lapIn_8 rfl ?_
  refine V_iload_n X 2 rfl dX7_lapIn_9 rfl ?_
  refine V_iload_n X 3 rfl dX7_lapIn_10 rfl ?_
  refine V_callV_I X (na := 2) (ci := 7) (b0 := 89) (by decide) (rfl) (by decide) rfl (m_X7_isNoSeat g l hl9 σ hR hr10 r d hr0 hd0) gX7_lapIn_X7_isNoSeat rfl rfl rfl (by decide +kernel) ⟨Nat.le_of_ble_eq_true rfl, Nat.le_of_ble_eq_true rfl⟩ rfl rfl (Nat.le_of_ble_eq_true rfl) ⟨Nat.le_of_ble_eq_true rfl, Nat.le_of_ble_eq_true rfl⟩ dX7_lapIn_11 (fun z5 u6 z5r hp7 => ?_)
  obtain ⟨hz9, hu8⟩ := hp7
  have hu8 := hu8.symm
  subst hu8
  rcases Classical.em ((0 ≤ r ∧ r < σ.1 89 23) ∧ 0 ≤ d ∧ d < 6) with hA | hA
  · skip
    rw [if_pos hA] at hz9
    subst hz9
    refine V_if_eq X 21 ⟨by decide, by decide⟩ dX7_lapIn_14 (by decide) (fun _ => ?_) (fun h => absurd h (by first | decide | omega))
    refine V_iload_n X 0 rfl dX7_lapIn_21 rfl ?_
    refine V_iconst X dX7_lapIn_22 ?_
    refine V_icmp_ne X 30 z1r ⟨by decide, by decide⟩ dX7_lapIn_23 (by decide) (fun q9 => ?_) (fun q9 => ?_)
    · skip
      refine V_iconst X dX7_lapIn_30 ?_
      refine V_callV_I X (na := 1) (ci := 7) (b0 := 89) (by decide) (rfl) (by decide) rfl (m_X7_fails g l hl9 σ hR 0 ⟨by decide, by decide⟩) gX7_lapIn_X7_fails rfl rfl rfl (by decide +kernel) ⟨Nat.le_of_ble_eq_true rfl, Nat.le_of_ble_eq_true rfl⟩ rfl rfl (Nat.le_of_ble_eq_true rfl) ⟨Nat.le_of_ble_eq_true rfl, Nat.le_of_ble_eq_true rfl⟩ dX7_lapIn_31 (fun z10 u11 z10r hp12 => ?_)
      obtain ⟨hz9, hu13⟩ := hp12
      have hu13 := hu13.symm
      subst hu13
      rw [if_neg (by decide)] at hz9
      subst hz9
      refine V_if_eq X 41 ⟨by decide, by decide⟩ dX7_lapIn_34 (by decide) (fun _ => ?_) (fun h => absurd h (by first | decide | omega))
      refine V_iload_n X 0 rfl dX7_lapIn_41 rfl ?_
      exact V_iret X hr rfl z1r (by exact Or.inl ⟨hA, by omega, hz, rfl⟩) dX7_lapIn_42 (by decide) (by decide)
    · skip
      refine V_iconst X dX7_lapIn_26 ?_
      refine V_goto X 31 dX7_lapIn_27 (by decide) ?_
      refine V_callV_I X (na := 1) (ci := 7) (b0 := 89) (by decide) (rfl) (by decide) rfl (m_X7_fails g l hl9 σ hR 2 ⟨by decide, by decide⟩) gX7_lapIn_X7_fails rfl rfl rfl (by decide +kernel) ⟨Nat.le_of_ble_eq_true rfl, Nat.le_of_ble_eq_true rfl⟩ rfl rfl (Nat.le_of_ble_eq_true rfl) ⟨Nat.le_of_ble_eq_true rfl, Nat.le_of_ble_eq_true rfl⟩ dX7_lapIn_31 (fun z14 u15 z14r hp16 => ?_)
      obtain ⟨hz9, hu17⟩ := hp16
      have hu17 := hu17.symm
      subst hu17
      rw [if_pos (by decide)] at hz9
      subst hz9
      refine V_if_eq X 41 ⟨by decide, by decide⟩ dX7_lapIn_34 (by decide) (fun h => absurd h (by first | decide | omega)) (fun _ => ?_)
      refine V_iconst X dX7_lapIn_37 ?_
      refine V_goto X 42 dX7_lapIn_38 (by decide) ?_
      exact V_iret X hr rfl ⟨by decide, by decide⟩ (by exact Or.inr (Or.inr ⟨hA, by omega, rfl⟩)) dX7_lapIn_42 (by decide) (by decide)
  · skip
    rw [if_neg hA] at hz9
    subst hz9
    refine V_if_eq X 21 ⟨by decide, by decide⟩ dX7_lapIn_14 (by decide) (fun h => absurd h (by first | decide | omega)) (fun _ => ?_)
    refine V_iconst X dX7_lapIn_17 ?_
    refine V_goto X 31 dX7_lapIn_18 (by decide) ?_
    refine V_callV_I X (na := 1) (ci := 7) (b0 := 89) (by decide) (rfl) (by decide) rfl (m_X7_fails g l hl9 σ hR 1 ⟨by decide, by decide⟩) gX7_lapIn_X7_fails rfl rfl rfl (by decide +kernel) ⟨Nat.le_of_ble_eq_true rfl, Nat.le_of_ble_eq_true rfl⟩ rfl rfl (Nat.le_of_ble_eq_true rfl) ⟨Nat.le_of_ble_eq_true rfl, Nat.le_of_ble_eq_true rfl⟩ dX7_lapIn_31 (fun z18 u19 z18r hp20 => ?_)
    obtain ⟨hz9, hu21⟩ := hp20
    have hu21 := hu21.symm
    subst hu21
    rw [if_pos (by decide)] at hz9
    subst hz9
    refine V_if_eq X 41 ⟨by decide, by decide⟩ dX7_lapIn_34 (by decide) (fun h => absurd h (by first | decide | omega)) (fun _ => ?_)
    refine V_iconst X dX7_lapIn_37 ?_
    refine V_goto X 42 dX7_lapIn_38 (by decide) ?_
    exact V_iret X hr rfl ⟨by decide, by decide⟩ (by exact Or.inr (Or.inl ⟨hA, rfl⟩)) dX7_lapIn_42 (by decide) (by decide)
set_option maxRecDepth 100000 in
set_option maxHeartbeats 4000000 in
theorem m_X7_placeNow (g : Geo) (l : Launch) (hl9 : l.stackTraces = false) (σ : St) (hR : RG σ) (n : Nat) (hMB : MB σ n) (r d : Int) (hr0 : R32 r) (hd0 : R32 d) : Met l yX7_placeNow wsX7_placeNow ({ frames := 2, cells := 0, slots := 0, locals := 46 }) (va_Pc [.ref (ga g (89)), .int (iN (r)), .int (iN (d))] (World g σ)) (QI g (fun z u => z = plcM σ n r d ∧ u = σ)) 0 0 (gA g) := by
  refine V_met hl9 (by decide) rfl (Nat.le_of_ble_eq_true rfl) ?_
  intro p9 e9 s9 m9 b9 t9 c9 X hr _
  have hn := hMB.1
  have hn30 := hMB.2.1
  have hL4 : 0 ≤ σ.1 89 11 ∧ σ.1 89 11 ≤ 30 := by omega
  refine V_lv (lv' := [(0, .ref (ga g (89))), (1, .int (iN (r))), (2, .int (iN (d)))]) rfl ?_
  refine V_aload_n X 0 rfl dX7_placeNow_0 rfl ?_
  refine V_iload_n X 1 rfl dX7_placeNow_1 rfl ?_
  refine V_iload_n X 2 rfl dX7_placeNow_2 rfl ?_
  refine V_callV_I X (na := 2) (ci := 7) (b0 := 89) (by decide) (rfl) (by decide) rfl (m_X7_lapNow g l hl9 σ hR n hMB r d hr0 hd0) gX7_placeNow_X7_lapNow rfl rfl rfl (by decide +kernel) ⟨Nat.le_of_ble_eq_true rfl, Nat.le_of_ble_eq_true rfl⟩ rfl rfl (Nat.le_of_ble_eq_true rfl) ⟨Nat.le_of_ble_eq_true rfl, Nat.le_of_ble_eq_true rfl⟩ dX7_placeNow_3 (fun z1 u2 z1r hp3 => ?_)
  obtain ⟨hz, hu4⟩ := hp3
  have hu4 := hu4.symm
  subst hu4
  subst hz
  have hob := lapM_b (σ := σ) (n := n) (r := r) (d := d)
  refine V_istore_n X [(3, .int (iN (lapM σ n r d))), (0, .ref (ga g (89))), (1, .int (iN (r))), (2, .int (iN (d)))] dX7_placeNow_6 rfl (by decide) rfl ?_
  refine V_iload_n X 0 rfl dX7_placeNow_7 rfl ?_
  refine V_iconst X dX7_placeNow_8 ?_
  refine V_icmp_ne X 14 ⟨by omega, by omega⟩ ⟨by decide, by decide⟩ dX7_placeNow_9 (by decide) (fun q5 => ?_) (fun q5 => ?_)
  · skip
    refine V_iconst X dX7_placeNow_14 ?_
    refine V_istore X [(4, .int (iN (1))), (3, .int (iN (lapM σ n r d))), (0, .ref (ga g (89))), (1, .int (iN (r))), (2, .int (iN (d)))] dX7_placeNow_15 (by decide) rfl ?_
    refine V_iconst X dX7_placeNow_17 ?_
    refine V_istore X [(5, .int (iN (0))), (4, .int (iN (1))), (3, .int (iN (lapM σ n r d))), (0, .ref (ga g (89))), (1, .int (iN (r))), (2, .int (iN (d)))] dX7_placeNow_18 (by decide) rfl ?_
    refine V_sub (lv' := [(0, .ref (ga g (89))), (1, .int (iN (r))), (2, .int (iN (d))), (3, .int (iN (lapM σ n r d))), (4, .int (iN (1))), (5, .int (iN (0)))]) [3, 4, 5, 2, 1, 0] rfl ?_
    refine V_up (N := 6) (fun (i : Nat) (u : St) (lw : List (Nat × Value)) => σ = u ∧ [(0, .ref (ga g (89))), (1, .int (iN (r))), (2, .int (iN (d))), (3, .int (iN (lapM σ n r d))), (4, .int (iN (plS σ n r d i + 1))), (5, .int (iN (((i : Nat) : Int))))] = lw ∧ (True)) (i0 := 0) (Nat.zero_le _) ⟨rfl, rfl, trivial⟩ ?_ ?_
    · skip
      rintro _ _ ⟨rfl, rfl, -⟩
      have hsb := plS_b (σ := σ) (n := n) (r := r) (d := d) 6
      refine V_iload X 5 rfl dX7_placeNow_20 ?_
      refine V_bipush X (by decide) dX7_placeNow_22 ?_
      refine V_icmp_ge X 102 ⟨by omega, by omega⟩ ⟨by decide, by decide⟩ dX7_placeNow_24 (by decide) (fun _ => ?_) (fun h => absurd h (by decide))
      refine V_iload X 4 rfl dX7_placeNow_102 ?_
      exact V_iret X hr rfl ⟨by omega, by omega⟩ (by exact ⟨by unfold plcM; rw [if_neg (by omega)], rfl⟩) dX7_placeNow_104 (by decide) (by decide)
    · skip
      rintro i _ _ hiN ⟨rfl, rfl, -⟩ kk
      have hsb := plS_b (σ := σ) (n := n) (r := r) (d := d) i
      refine V_iload X 5 rfl dX7_placeNow_20 ?_
      refine V_bipush X (by decide) dX7_placeNow_22 ?_
      refine V_icmp_ge X 102 ⟨by omega, by omega⟩ ⟨by decide, by decide⟩ dX7_placeNow_24 (by decide) (fun h => absurd h (by omega)) (fun _ => ?_)
      refine V_iload X 5 rfl dX7_placeNow_27 ?_
      refine V_iload_n X 2 rfl dX7_placeNow_29 rfl ?_
      refine V_icmp_ne X 37 ⟨by omega, by omega⟩ hd0 dX7_placeNow_30 (by decide) (fun q6 => ?_) (fun q6 => ?_)
      · skip
        refine V_aload_n X 0 rfl dX7_placeNow_37 rfl ?_
        refine V_iload_n X 1 rfl dX7_placeNow_38 rfl ?_
        refine V_iload X 5 rfl dX7_placeNow_39 ?_
        refine V_callV_I X (na := 2) (ci := 7) (b0 := 89) (by decide) (rfl) (by decide) rfl (m_X7_lapNow g l hl9 σ hR n hMB r ((i : Nat) : Int) hr0 ⟨by omega, by omega⟩) gX7_placeNow_X7_lapNow rfl rfl rfl (by decide +kernel) ⟨Nat.le_of_ble_eq_true rfl, Nat.le_of_ble_eq_true rfl⟩ rfl rfl (Nat.le_of_ble_eq_true rfl) ⟨Nat.le_of_ble_eq_true rfl, Nat.le_of_ble_eq_true rfl⟩ dX7_placeNow_41 (fun z7 u8 z7r hp9 => ?_)
        obtain ⟨hz, hu10⟩ := hp9
        have hu10 := hu10.symm
        subst hu10
        subst hz
        have hib := lapM_b (σ := σ) (n := n) (r := r) (d := ((i : Nat) : Int))
        refine V_istore X [(6, .int (iN (lapM σ n r ((i : Nat) : Int)))), (0, .ref (ga g (89))), (1, .int (iN (r))), (2, .int (iN (d))), (3, .int (iN (lapM σ n r d))), (4, .int (iN (plS σ n r d i + 1))), (5, .int (iN (((i : Nat) : Int))))] dX7_placeNow_44 (by decide) rfl ?_
        refine V_iload X 0 rfl dX7_placeNow_46 ?_
        refine V_iconst X dX7_placeNow_48 ?_
        refine V_icmp_eq X 96 ⟨by omega, by omega⟩ ⟨by decide, by decide⟩ dX7_placeNow_49 (by decide) (fun q11 => ?_) (fun q11 => ?_)
        · skip
          have hah : ¬ ahd (cntM σ) n (lapM σ n r (i : Int)) (lapM σ n r d) := by unfold ahd; omega
          refine V_iinc X [(5, .int (iN (((i : Nat) : Int) + 1))), (6, .int (iN (lapM σ n r ((i : Nat) : Int)))), (0, .ref (ga g (89))), (1, .int (iN (r))), (2, .int (iN (d))), (3, .int (iN (lapM σ n r d))), (4, .int (iN (plS σ n r d i + 1)))] 6 (((i : Nat) : Int) + 1) (rfl) rfl dX7_placeNow_96 (by decide) rfl ?_
          refine V_goto X 20 dX7_placeNow_99 (by decide) ?_
          refine V_sub (lv' := [(0, .ref (ga g (89))), (1, .int (iN (r))), (2, .int (iN (d))), (3, .int (iN (lapM σ n r d))), (4, .int (iN (plS σ n r d i + 1))), (5, .int (iN (((i : Nat) : Int) + 1)))]) [2, 3, 4, 5, 6, 0] rfl ?_
          refine V_lv (congrArg (fun q : Int => ([(0, .ref (ga g (89))), (1, .int (iN (r))), (2, .int (iN (d))), (3, .int (iN (lapM σ n r d))), (4, .int (iN q)), (5, .int (iN (((i : Nat) : Int) + 1)))] : List (Nat × Value))) (show plS σ n r d i + 1 = plS σ n r d (i + 1) + 1 from by show _ = (plS σ n r d i + ahI (cntM σ) n (lapM σ n r (i : Int)) (lapM σ n r d)) + 1; rw [ahI_n hah]; omega)) ?_
          refine V_lv (congrArg (fun q : Int => ([(0, .ref (ga g (89))), (1, .int (iN (r))), (2, .int (iN (d))), (3, .int (iN (lapM σ n r d))), (4, .int (iN (plS σ n r d (i + 1) + 1))), (5, .int (iN q))] : List (Nat × Value))) (show ((i : Nat) : Int) + 1 = (((i + 1) : Nat) : Int) from by omega)) ?_
          exact kk _ _ ⟨rfl, rfl, trivial⟩
        · skip
          refine V_iload X 5 rfl dX7_placeNow_52 ?_
          refine V_aload_n X 1 rfl dX7_placeNow_54 rfl ?_
          refine V_iload X 0 rfl dX7_placeNow_55 ?_
          have hc57 := hMB.cnt (l := (lapM σ n r ((i : Nat) : Int)).toNat) (by omega)
          refine V_callV_I X (na := 1) (ci := 7) (b0 := 89) (by decide) (rfl) (by decide) rfl (m_X7_countOf g l hl9 σ hR (lapM σ n r ((i : Nat) : Int)) (by omega) (by omega) (by omega)) gX7_placeNow_X7_countOf rfl rfl rfl (by decide +kernel) ⟨Nat.le_of_ble_eq_true rfl, Nat.le_of_ble_eq_true rfl⟩ rfl rfl (Nat.le_of_ble_eq_true rfl) ⟨Nat.le_of_ble_eq_true rfl, Nat.le_of_ble_eq_true rfl⟩ dX7_placeNow_57 (fun z12 u13 z12r hp14 => ?_)
          obtain ⟨hz57, hu15⟩ := hp14
          have hu15 := hu15.symm
          subst hu15
          subst hz57
          refine V_aload_n X 1 rfl dX7_placeNow_60 rfl ?_
          refine V_iload_n X 4 rfl dX7_placeNow_61 rfl ?_
          have hc62 := hMB.cnt (l := (lapM σ n r d).toNat) (by omega)
          refine V_callV_I X (na := 1) (ci := 7) (b0 := 89) (by decide) (rfl) (by decide) rfl (m_X7_countOf g l hl9 σ hR (lapM σ n r d) (by omega) (by omega) (by omega)) gX7_placeNow_X7_countOf rfl rfl rfl (by decide +kernel) ⟨Nat.le_of_ble_eq_true rfl, Nat.le_of_ble_eq_true rfl⟩ rfl rfl (Nat.le_of_ble_eq_true rfl) ⟨Nat.le_of_ble_eq_true rfl, Nat.le_of_ble_eq_true rfl⟩ dX7_placeNow_62 (fun z16 u17 z16r hp18 => ?_)
          obtain ⟨hz62, hu19⟩ := hp18
          have hu19 := hu19.symm
          subst hu19
          subst hz62
          refine V_icmp_lt X 88 ⟨by omega, by omega⟩ ⟨by omega, by omega⟩ dX7_placeNow_65 (by decide) (fun q20 => ?_) (fun q20 => ?_)
          · skip
            refine V_iconst X dX7_placeNow_88 ?_
            refine V_goto X 93 dX7_placeNow_89 (by decide) ?_
            have hah : ahd (cntM σ) n (lapM σ n r (i : Int)) (lapM σ n r d) := by unfold ahd; omega
            refine V_iadd X dX7_placeNow_93 ?_
            refine V_istore X [(4, .int (iN ((plS σ n r d i + 1) + 1))), (6, .int (iN (lapM σ n r ((i : Nat) : Int)))), (0, .ref (ga g (89))), (1, .int (iN (r))), (2, .int (iN (d))), (3, .int (iN (lapM σ n r d))), (5, .int (iN (((i : Nat) : Int))))] dX7_placeNow_94 (by decide) rfl ?_
            refine V_iinc X [(5, .int (iN (((i : Nat) : Int) + 1))), (4, .int (iN ((plS σ n r d i + 1) + 1))), (6, .int (iN (lapM σ n r ((i : Nat) : Int)))), (0, .ref (ga g (89))), (1, .int (iN (r))), (2, .int (iN (d))), (3, .int (iN (lapM σ n r d)))] 6 (((i : Nat) : Int) + 1) (rfl) rfl dX7_placeNow_96 (by decide) rfl ?_
            refine V_goto X 20 dX7_placeNow_99 (by decide) ?_
            refine V_sub (lv' := [(0, .ref (ga g (89))), (1, .int (iN (r))), (2, .int (iN (d))), (3, .int (iN (lapM σ n r d))), (4, .int (iN ((plS σ n r d i + 1) + 1))), (5, .int (iN (((i : Nat) : Int) + 1)))]) [3, 4, 5, 6, 1, 0] rfl ?_
            refine V_lv (congrArg (fun q : Int => ([(0, .ref (ga g (89))), (1, .int (iN (r))), (2, .int (iN (d))), (3, .int (iN (lapM σ n r d))), (4, .int (iN q)), (5, .int (iN (((i : Nat) : Int) + 1)))] : List (Nat × Value))) (show (plS σ n r d i + 1) + 1 = plS σ n r d (i + 1) + 1 from by show _ = (plS σ n r d i + ahI (cntM σ) n (lapM σ n r (i : Int)) (lapM σ n r d)) + 1; rw [ahI_y hah])) ?_
            refine V_lv (congrArg (fun q : Int => ([(0, .ref (ga g (89))), (1, .int (iN (r))), (2, .int (iN (d))), (3, .int (iN (lapM σ n r d))), (4, .int (iN (plS σ n r d (i + 1) + 1))), (5, .int (iN q))] : List (Nat × Value))) (show ((i : Nat) : Int) + 1 = (((i + 1) : Nat) : Int) from by omega)) ?_
            exact kk _ _ ⟨rfl, rfl, trivial⟩
          · skip
            refine V_aload_n X 1 rfl dX7_placeNow_68 rfl ?_
            refine V_iload X 0 rfl dX7_placeNow_69 ?_
            have hc71 := hMB.cnt (l := (lapM σ n r ((i : Nat) : Int)).toNat) (by omega)
            refine V_callV_I X (na := 1) (ci := 7) (b0 := 89) (by decide) (rfl) (by decide) rfl (m_X7_countOf g l hl9 σ hR (lapM σ n r ((i : Nat) : Int)) (by omega) (by omega) (by omega)) gX7_placeNow_X7_countOf rfl rfl rfl (by decide +kernel) ⟨Nat.le_of_ble_eq_true rfl, Nat.le_of_ble_eq_true rfl⟩ rfl rfl (Nat.le_of_ble_eq_true rfl) ⟨Nat.le_of_ble_eq_true rfl, Nat.le_of_ble_eq_true rfl⟩ dX7_placeNow_71 (fun z21 u22 z21r hp23 => ?_)
            obtain ⟨hz71, hu24⟩ := hp23
            have hu24 := hu24.symm
            subst hu24
            subst hz71
            refine V_aload_n X 1 rfl dX7_placeNow_74 rfl ?_
            refine V_iload_n X 4 rfl dX7_placeNow_75 rfl ?_
            have hc76 := hMB.cnt (l := (lapM σ n r d).toNat) (by omega)
            refine V_callV_I X (na := 1) (ci := 7) (b0 := 89) (by decide) (rfl) (by decide) rfl (m_X7_countOf g l hl9 σ hR (lapM σ n r d) (by omega) (by omega) (by omega)) gX7_placeNow_X7_countOf rfl rfl rfl (by decide +kernel) ⟨Nat.le_of_ble_eq_true rfl, Nat.le_of_ble_eq_true rfl⟩ rfl rfl (Nat.le_of_ble_eq_true rfl) ⟨Nat.le_of_ble_eq_true rfl, Nat.le_of_ble_eq_true rfl⟩ dX7_placeNow_76 (fun z25 u26 z25r hp27 => ?_)
            obtain ⟨hz76, hu28⟩ := hp27
            have hu28 := hu28.symm
            subst hu28
            subst hz76
            refine V_icmp_ne X 92 ⟨by omega, by omega⟩ ⟨by omega, by omega⟩ dX7_placeNow_79 (by decide) (fun q29 => ?_) (fun q29 => ?_)
            · skip
              refine V_iconst X dX7_placeNow_92 ?_
              have hah : ¬ ahd (cntM σ) n (lapM σ n r (i : Int)) (lapM σ n r d) := by unfold ahd; omega
              refine V_iadd X dX7_placeNow_93 ?_
              refine V_istore X [(4, .int (iN ((plS σ n r d i + 1) + 0))), (6, .int (iN (lapM σ n r ((i : Nat) : Int)))), (0, .ref (ga g (89))), (1, .int (iN (r))), (2, .int (iN (d))), (3, .int (iN (lapM σ n r d))), (5, .int (iN (((i : Nat) : Int))))] dX7_placeNow_94 (by decide) rfl ?_
              refine V_iinc X [(5, .int (iN (((i : Nat) : Int) + 1))), (4, .int (iN ((plS σ n r d i + 1) + 0))), (6, .int (iN (lapM σ n r ((i : Nat) : Int)))), (0, .ref (ga g (89))), (1, .int (iN (r))), (2, .int (iN (d))), (3, .int (iN (lapM σ n r d)))] 6 (((i : Nat) : Int) + 1) (rfl) rfl dX7_placeNow_96 (by decide) rfl ?_
              refine V_goto X 20 dX7_placeNow_99 (by decide) ?_
              refine V_sub (lv' := [(0, .ref (ga g (89))), (1, .int (iN (r))), (2, .int (iN (d))), (3, .int (iN (lapM σ n r d))), (4, .int (iN ((plS σ n r d i + 1) + 0))), (5, .int (iN (((i : Nat) : Int) + 1)))]) [3, 4, 5, 6, 1, 0] rfl ?_
              refine V_lv (congrArg (fun q : Int => ([(0, .ref (ga g (89))), (1, .int (iN (r))), (2, .int (iN (d))), (3, .int (iN (lapM σ n r d))), (4, .int (iN q)), (5, .int (iN (((i : Nat) : Int) + 1)))] : List (Nat × Value))) (show (plS σ n r d i + 1) + 0 = plS σ n r d (i + 1) + 1 from by show _ = (plS σ n r d i + ahI (cntM σ) n (lapM σ n r (i : Int)) (lapM σ n r d)) + 1; rw [ahI_n hah]; omega)) ?_
              refine V_lv (congrArg (fun q : Int => ([(0, .ref (ga g (89))), (1, .int (iN (r))), (2, .int (iN (d))), (3, .int (iN (lapM σ n r d))), (4, .int (iN (plS σ n r d (i + 1) + 1))), (5, .int (iN q))] : List (Nat × Value))) (show ((i : Nat) : Int) + 1 = (((i + 1) : Nat) : Int) from by omega)) ?_
              exact kk _ _ ⟨rfl, rfl, trivial⟩
            · skip
              refine V_iload X 0 rfl dX7_placeNow_82 ?_
              refine V_iload_n X 4 rfl dX7_placeNow_84 rfl ?_
              refine V_icmp_ge X 92 ⟨by omega, by omega⟩ ⟨by omega, by omega⟩ dX7_placeNow_85 (by decide) (fun q30 => ?_) (fun q30 => ?_)
              · skip
                refine V_iconst X dX7_placeNow_92 ?_
                have hah : ¬ ahd (cntM σ) n (lapM σ n r (i : Int)) (lapM σ n r d) := by unfold ahd; omega
                refine V_iadd X dX7_placeNow_93 ?_
                refine V_istore X [(4, .int (iN ((plS σ n r d i + 1) + 0))), (6, .int (iN (lapM σ n r ((i : Nat) : Int)))), (0, .ref (ga g (89))), (1, .int (iN (r))), (2, .int (iN (d))), (3, .int (iN (lapM σ n r d))), (5, .int (iN (((i : Nat) : Int))))] dX7_placeNow_94 (by decide) rfl ?_
                refine V_iinc X [(5, .int (iN (((i : Nat) : Int) + 1))), (4, .int (iN ((plS σ n r d i + 1) + 0))), (6, .int (iN (lapM σ n r ((i : Nat) : Int)))), (0, .ref (ga g (89))), (1, .int (iN (r))), (2, .int (iN (d))), (3, .int (iN (lapM σ n r d)))] 6 (((i : Nat) : Int) + 1) (rfl) rfl dX7_placeNow_96 (by decide) rfl ?_
                refine V_goto X 20 dX7_placeNow_99 (by decide) ?_
                refine V_sub (lv' := [(0, .ref (ga g (89))), (1, .int (iN (r))), (2, .int (iN (d))), (3, .int (iN (lapM σ n r d))), (4, .int (iN ((plS σ n r d i + 1) + 0))), (5, .int (iN (((i : Nat) : Int) + 1)))]) [3, 4, 5, 6, 1, 0] rfl ?_
                refine V_lv (congrArg (fun q : Int => ([(0, .ref (ga g (89))), (1, .int (iN (r))), (2, .int (iN (d))), (3, .int (iN (lapM σ n r d))), (4, .int (iN q)), (5, .int (iN (((i : Nat) : Int) + 1)))] : List (Nat × Value))) (show (plS σ n r d i + 1) + 0 = plS σ n r d (i + 1) + 1 from by show _ = (plS σ n r d i + ahI (cntM σ) n (lapM σ n r (i : Int)) (lapM σ n r d)) + 1; rw [ahI_n hah]; omega)) ?_
                refine V_lv (congrArg (fun q : Int => ([(0, .ref (ga g (89))), (1, .int (iN (r))), (2, .int (iN (d))), (3, .int (iN (lapM σ n r d))), (4, .int (iN (plS σ n r d (i + 1) + 1))), (5, .int (iN q))] : List (Nat × Value))) (show ((i : Nat) : Int) + 1 = (((i + 1) : Nat) : Int) from by omega)) ?_
                exact kk _ _ ⟨rfl, rfl, trivial⟩
              · skip
                refine V_iconst X dX7_placeNow_88 ?_
                refine V_goto X 93 dX7_placeNow_89 (by decide) ?_
                have hah : ahd (cntM σ) n (lapM σ n r (i : Int)) (lapM σ n r d) := by unfold ahd; omega
                refine V_iadd X dX7_placeNow_93 ?_
                refine V_istore X [(4, .int (iN ((plS σ n r d i + 1) + 1))), (6, .int (iN (lapM σ n r ((i : Nat) : Int)))), (0, .ref (ga g (89))), (1, .int (iN (r))), (2, .int (iN (d))), (3, .int (iN (lapM σ n r d))), (5, .int (iN (((i : Nat) : Int))))] dX7_placeNow_94 (by decide) rfl ?_
                refine V_iinc X [(5, .int (iN (((i : Nat) : Int) + 1))), (4, .int (iN ((plS σ n r d i + 1) + 1))), (6, .int (iN (lapM σ n r ((i : Nat) : Int)))), (0, .ref (ga g (89))), (1, .int (iN (r))), (2, .int (iN (d))), (3, .int (iN (lapM σ n r d)))] 6 (((i : Nat) : Int) + 1) (rfl) rfl dX7_placeNow_96 (by decide) rfl ?_
                refine V_goto X 20 dX7_placeNow_99 (by decide) ?_
                refine V_sub (lv' := [(0, .ref (ga g (89))), (1, .int (iN (r))), (2, .int (iN (d))), (3, .int (iN (lapM σ n r d))), (4, .int (iN ((plS σ n r d i + 1) + 1))), (5, .int (iN (((i : Nat) : Int) + 1)))]) [3, 4, 5, 6, 1, 0] rfl ?_
                refine V_lv (congrArg (fun q : Int => ([(0, .ref (ga g (89))), (1, .int (iN (r))), (2, .int (iN (d))), (3, .int (iN (lapM σ n r d))), (4, .int (iN q)), (5, .int (iN (((i : Nat) : Int) + 1)))] : List (Nat × Value))) (show (plS σ n r d i + 1) + 1 = plS σ n r d (i + 1) + 1 from by show _ = (plS σ n r d i + ahI (cntM σ) n (lapM σ n r (i : Int)) (lapM σ n r d)) + 1; rw [ahI_y hah])) ?_
                refine V_lv (congrArg (fun q : Int => ([(0, .ref (ga g (89))), (1, .int (iN (r))), (2, .int (iN (d))), (3, .int (iN (lapM σ n r d))), (4, .int (iN (plS σ n r d (i + 1) + 1))), (5, .int (iN q))] : List (Nat × Value))) (show ((i : Nat) : Int) + 1 = (((i + 1) : Nat) : Int) from by omega)) ?_
                exact kk _ _ ⟨rfl, rfl, trivial⟩
      · skip
        refine V_iconst X dX7_placeNow_33 ?_
        refine V_goto X 44 dX7_placeNow_34 (by decide) ?_
        have hid : ((i : Nat) : Int) = d := by omega
        have hah : ¬ ahd (cntM σ) n (lapM σ n r (i : Int)) (lapM σ n r d) := by rw [hid]; unfold ahd; omega
        refine V_istore X [(6, .int (iN (-1))), (0, .ref (ga g (89))), (1, .int (iN (r))), (2, .int (iN (d))), (3, .int (iN (lapM σ n r d))), (4, .int (iN (plS σ n r d i + 1))), (5, .int (iN (((i : Nat) : Int))))] dX7_placeNow_44 (by decide) rfl ?_
        refine V_iload X 0 rfl dX7_placeNow_46 ?_
        refine V_iconst X dX7_placeNow_48 ?_
        refine V_icmp_eq X 96 ⟨by decide, by decide⟩ ⟨by decide, by decide⟩ dX7_placeNow_49 (by decide) (fun _ => ?_) (fun h => absurd h (by first | decide | omega))
        refine V_iinc X [(5, .int (iN (((i : Nat) : Int) + 1))), (6, .int (iN (-1))), (0, .ref (ga g (89))), (1, .int (iN (r))), (2, .int (iN (d))), (3, .int (iN (lapM σ n r d))), (4, .int (iN (plS σ n r d i + 1)))] 6 (((i : Nat) : Int) + 1) (rfl) rfl dX7_placeNow_96 (by decide) rfl ?_
        refine V_goto X 20 dX7_placeNow_99 (by decide) ?_
        refine V_sub (lv' := [(0, .ref (ga g (89))), (1, .int (iN (r))), (2, .int (iN (d))), (3, .int (iN (lapM σ n r d))), (4, .int (iN (plS σ n r d i + 1))), (5, .int (iN (((i : Nat) : Int) + 1)))]) [2, 3, 4, 5, 6, 0] rfl ?_
        refine V_lv (congrArg (fun q : Int => ([(0, .ref (ga g (89))), (1, .int (iN (r))), (2, .int (iN (d))), (3, .int (iN (lapM σ n r d))), (4, .int (iN q)), (5, .int (iN (((i : Nat) : Int) + 1)))] : List (Nat × Value))) (show plS σ n r d i + 1 = plS σ n r d (i + 1) + 1 from by show _ = (plS σ n r d i + ahI (cntM σ) n (lapM σ n r (i : Int)) (lapM σ n r d)) + 1; rw [ahI_n hah]; omega)) ?_
        refine V_lv (congrArg (fun q : Int => ([(0, .ref (ga g (89))), (1, .int (iN (r))), (2, .int (iN (d))), (3, .int (iN (lapM σ n r d))), (4, .int (iN (plS σ n r d (i + 1) + 1))), (5, .int (iN q))] : List (Nat × Value))) (show ((i : Nat) : Int) + 1 = (((i + 1) : Nat) : Int) from by omega)) ?_
        exact kk _ _ ⟨rfl, rfl, trivial⟩
  · skip
    refine V_iconst X dX7_placeNow_12 ?_
    exact V_iret X hr rfl ⟨by decide, by decide⟩ (by exact ⟨by unfold plcM; rw [if_pos (by omega)], rfl⟩) dX7_placeNow_13 (by decide) (by decide)
set_option maxRecDepth 100000 in
set_option maxHeartbeats 4000000 in
theorem m_X7_placeIn (g : Geo) (l : Launch) (hl9 : l.stackTraces = false) (σ : St) (hR : RG σ) (n : Nat) (hMB : MB σ n) (hr10 : 0 ≤ σ.1 89 23 ∧ σ.1 89 23 ≤ 10) (r d : Int) (hr0 : R32 r) (hd0 : R32 d) : Met l yX7_placeIn wsX7_placeIn ({ frames := 3, cells := 0, slots := 0, locals := 72 }) (va_Pc [.ref (ga g (89)), .int (iN (r)), .int (iN (d))] (World g σ)) (QI g (fun z u => (((0 ≤ r ∧ r < σ.1 89 23) ∧ 0 ≤ d ∧ d < 6) ∧ ¬ lapM σ n r d = -1 ∧ z = plcM σ n r d ∧ u = sw σ 89 0 0) ∨ (¬ ((0 ≤ r ∧ r < σ.1 89 23) ∧ 0 ≤ d ∧ d < 6) ∧ u = sw σ 89 0 1) ∨ (((0 ≤ r ∧ r < σ.1 89 23) ∧ 0 ≤ d ∧ d < 6) ∧ lapM σ n r d = -1 ∧ u = sw σ 89 0 2))) 0 0 (gA g) := by
  refine V_met hl9 (by decide) rfl (Nat.le_of_ble_eq_true rfl) ?_
  intro p9 e9 s9 m9 b9 t9 c9 X hr _
  have hn := hMB.1
  have hn30 := hMB.2.1
  have hL4 : 0 ≤ σ.1 89 11 ∧ σ.1 89 11 ≤ 30 := by omega
  refine V_lv (lv' := [(0, .ref (ga g (89))), (1, .int (iN (r))), (2, .int (iN (d)))]) rfl ?_
  refine V_aload_n X 0 rfl dX7_placeIn_0 rfl ?_
  refine V_iload_n X 1 rfl dX7_placeIn_1 rfl ?_
  refine V_iload_n X 2 rfl dX7_placeIn_2 rfl ?_
  refine V_callV_I X (na := 2) (ci := 7) (b0 := 89) (by decide) (rfl) (by decide) rfl (m_X7_isNoSeat g l hl9 σ hR hr10 r d hr0 hd0) gX7_placeIn_X7_isNoSeat rfl rfl rfl (by decide +kernel) ⟨Nat.le_of_ble_eq_true rfl, Nat.le_of_ble_eq_true rfl⟩ rfl rfl (Nat.le_of_ble_eq_true rfl) ⟨Nat.le_of_ble_eq_true rfl, Nat.le_of_ble_eq_true rfl⟩ dX7_placeIn_3 (fun z1 u2 z1r hp3 => ?_)
  obtain ⟨hz9, hu4⟩ := hp3
  have hu4 := hu4.symm
  subst hu4
  rcases Classical.em ((0 ≤ r ∧ r < σ.1 89 23) ∧ 0 ≤ d ∧ d < 6) with hA | hA
  · skip
    rw [if_pos hA] at hz9
    subst hz9
    refine V_if_eq X 13 ⟨by decide, by decide⟩ dX7_placeIn_6 (by decide) (fun _ => ?_) (fun h => absurd h (by first | decide | omega))
    refine V_aload_n X 0 rfl dX7_placeIn_13 rfl ?_
    refine V_iload_n X 1 rfl dX7_placeIn_14 rfl ?_
    refine V_iload_n X 2 rfl dX7_placeIn_15 rfl ?_
    refine V_callV_I X (na := 2) (ci := 7) (b0 := 89) (by decide) (rfl) (by decide) rfl (m_X7_placeNow g l hl9 σ hR n hMB r d hr0 hd0) gX7_placeIn_X7_placeNow rfl rfl rfl (by decide +kernel) ⟨Nat.le_of_ble_eq_true rfl, Nat.le_of_ble_eq_true rfl⟩ rfl rfl (Nat.le_of_ble_eq_true rfl) ⟨Nat.le_of_ble_eq_true rfl, Nat.le_of_ble_eq_true rfl⟩ dX7_placeIn_16 (fun z5 u6 z5r hp7 => ?_)
    obtain ⟨hz, hu8⟩ := hp7
    have hu8 := hu8.symm
    subst hu8
    have hpb := plcM_b (σ := σ) (n := n) (r := r) (d := d)
    have hpc := hpb.2.2
    refine V_istore_n X [(3, .int (iN (z5))), (0, .ref (ga g (89))), (1, .int (iN (r))), (2, .int (iN (d)))] dX7_placeIn_19 rfl (by decide) rfl ?_
    refine V_aload_n X 1 rfl dX7_placeIn_20 rfl ?_
    refine V_aload_n X 1 rfl dX7_placeIn_21 rfl ?_
    refine V_iload_n X 2 rfl dX7_placeIn_22 rfl ?_
    refine V_iload_n X 3 rfl dX7_placeIn_23 rfl ?_
    refine V_callV_I X (na := 2) (ci := 7) (b0 := 89) (by decide) (rfl) (by decide) rfl (m_X7_isNoSeat g l hl9 σ hR hr10 r d hr0 hd0) gX7_placeIn_X7_isNoSeat rfl rfl rfl (by decide +kernel) ⟨Nat.le_of_ble_eq_true rfl, Nat.le_of_ble_eq_true rfl⟩ rfl rfl (Nat.le_of_ble_eq_true rfl) ⟨Nat.le_of_ble_eq_true rfl, Nat.le_of_ble_eq_true rfl⟩ dX7_placeIn_24 (fun z9 u10 z9r hp11 => ?_)
    obtain ⟨hz9, hu12⟩ := hp11
    have hu12 := hu12.symm
    subst hu12
    rw [if_pos hA] at hz9
    subst hz9
    refine V_if_eq X 34 ⟨by decide, by decide⟩ dX7_placeIn_27 (by decide) (fun _ => ?_) (fun h => absurd h (by first | decide | omega))
    refine V_iload_n X 0 rfl dX7_placeIn_34 rfl ?_
    refine V_if_ne X 42 z5r dX7_placeIn_35 (by decide) (fun q13 => ?_) (fun q13 => ?_)
    · skip
      refine V_iconst X dX7_placeIn_42 ?_
      refine V_callV_I X (na := 1) (ci := 7) (b0 := 89) (by decide) (rfl) (by decide) rfl (m_X7_fails g l hl9 σ hR 0 ⟨by decide, by decide⟩) gX7_placeIn_X7_fails rfl rfl rfl (by decide +kernel) ⟨Nat.le_of_ble_eq_true rfl, Nat.le_of_ble_eq_true rfl⟩ rfl rfl (Nat.le_of_ble_eq_true rfl) ⟨Nat.le_of_ble_eq_true rfl, Nat.le_of_ble_eq_true rfl⟩ dX7_placeIn_43 (fun z14 u15 z14r hp16 => ?_)
      obtain ⟨hz9, hu17⟩ := hp16
      have hu17 := hu17.symm
      subst hu17
      rw [if_neg (by decide)] at hz9
      subst hz9
      refine V_if_eq X 53 ⟨by decide, by decide⟩ dX7_placeIn_46 (by decide) (fun _ => ?_) (fun h => absurd h (by first | decide | omega))
      refine V_iload_n X 0 rfl dX7_placeIn_53 rfl ?_
      exact V_iret X hr rfl z5r (by exact Or.inl ⟨hA, fun q => by have e := hpc.mpr q; omega, hz, rfl⟩) dX7_placeIn_54 (by decide) (by decide)
    · skip
      refine V_iconst X dX7_placeIn_38 ?_
      refine V_goto X 43 dX7_placeIn_39 (by decide) ?_
      refine V_callV_I X (na := 1) (ci := 7) (b0 := 89) (by decide) (rfl) (by decide) rfl (m_X7_fails g l hl9 σ hR 2 ⟨by decide, by decide⟩) gX7_placeIn_X7_fails rfl rfl rfl (by decide +kernel) ⟨Nat.le_of_ble_eq_true rfl, Nat.le_of_ble_eq_true rfl⟩ rfl rfl (Nat.le_of_ble_eq_true rfl) ⟨Nat.le_of_ble_eq_true rfl, Nat.le_of_ble_eq_true rfl⟩ dX7_placeIn_43 (fun z18 u19 z18r hp20 => ?_)
      obtain ⟨hz9, hu21⟩ := hp20
      have hu21 := hu21.symm
      subst hu21
      rw [if_pos (by decide)] at hz9
      subst hz9
      refine V_if_eq X 53 ⟨by decide, by decide⟩ dX7_placeIn_46 (by decide) (fun h => absurd h (by first | decide | omega)) (fun _ => ?_)
      refine V_iconst X dX7_placeIn_49 ?_
      refine V_goto X 54 dX7_placeIn_50 (by decide) ?_
      exact V_iret X hr rfl ⟨by decide, by decide⟩ (by exact Or.inr (Or.inr ⟨hA, hpc.mp (by omega), rfl⟩)) dX7_placeIn_54 (by decide) (by decide)
  · skip
    rw [if_neg hA] at hz9
    subst hz9
    refine V_if_eq X 13 ⟨by decide, by decide⟩ dX7_placeIn_6 (by decide) (fun h => absurd h (by first | decide | omega)) (fun _ => ?_)
    refine V_iconst X dX7_placeIn_9 ?_
    refine V_goto X 19 dX7_placeIn_10 (by decide) ?_
    refine V_istore_n X [(3, .int (iN (0))), (0, .ref (ga g (89))), (1, .int (iN (r))), (2, .int (iN (d)))] dX7_placeIn_19 rfl (by decide) rfl ?_
    refine V_aload_n X 1 rfl dX7_placeIn_20 rfl ?_
    refine V_aload_n X 1 rfl dX7_placeIn_21 rfl ?_
    refine V_iload_n X 2 rfl dX7_placeIn_22 rfl ?_
    refine V_iload_n X 3 rfl dX7_placeIn_23 rfl ?_
    refine V_callV_I X (na := 2) (ci := 7) (b0 := 89) (by decide) (rfl) (by decide) rfl (m_X7_isNoSeat g l hl9 σ hR hr10 r d hr0 hd0) gX7_placeIn_X7_isNoSeat rfl rfl rfl (by decide +kernel) ⟨Nat.le_of_ble_eq_true rfl, Nat.le_of_ble_eq_true rfl⟩ rfl rfl (Nat.le_of_ble_eq_true rfl) ⟨Nat.le_of_ble_eq_true rfl, Nat.le_of_ble_eq_true rfl⟩ dX7_placeIn_24 (fun z22 u23 z22r hp24 => ?_)
    obtain ⟨hz9, hu25⟩ := hp24
    have hu25 := hu25.symm
    subst hu25
    rw [if_neg hA] at hz9
    subst hz9
    refine V_if_eq X 34 ⟨by decide, by decide⟩ dX7_placeIn_27 (by decide) (fun h => absurd h (by first | decide | omega)) (fun _ => ?_)
    refine V_iconst X dX7_placeIn_30 ?_
    refine V_goto X 43 dX7_placeIn_31 (by decide) ?_
    refine V_callV_I X (na := 1) (ci := 7) (b0 := 89) (by decide) (rfl) (by decide) rfl (m_X7_fails g l hl9 σ hR 1 ⟨by decide, by decide⟩) gX7_placeIn_X7_fails rfl rfl rfl (by decide +kernel) ⟨Nat.le_of_ble_eq_true rfl, Nat.le_of_ble_eq_true rfl⟩ rfl rfl (Nat.le_of_ble_eq_true rfl) ⟨Nat.le_of_ble_eq_true rfl, Nat.le_of_ble_eq_true rfl⟩ dX7_placeIn_43 (fun z26 u27 z26r hp28 => ?_)
    obtain ⟨hz9, hu29⟩ := hp28
    have hu29 := hu29.symm
    subst hu29
    rw [if_pos (by decide)] at hz9
    subst hz9
    refine V_if_eq X 53 ⟨by decide, by decide⟩ dX7_placeIn_46 (by decide) (fun h => absurd h (by first | decide | omega)) (fun _ => ?_)
    refine V_iconst X dX7_placeIn_49 ?_
    refine V_goto X 54 dX7_placeIn_50 (by decide) ?_
    exact V_iret X hr rfl ⟨by decide, by decide⟩ (by exact Or.inr (Or.inl ⟨hA, rfl⟩)) dX7_placeIn_54 (by decide) (by decide)
set_option maxRecDepth 100000 in
set_option maxHeartbeats 4000000 in
theorem m_X7_drop (g : Geo) (l : Launch) (hl9 : l.stackTraces = false) (σ : St) (hR : RG σ) (a : Int) (ha : R32 a) : Met l yX7_drop wsX7_drop ({ frames := 1, cells := 0, slots := 0, locals := 22 }) (va_Pc [.ref (ga g (89)), .int (iN (a))] (World g σ)) (QI g (fun z u => ((0 ≤ a ∧ a ≤ 3) ∧ z = σ.1 89 26 ∧ u = sw (sw σ 89 0 0) 89 26 a) ∨ (¬ (0 ≤ a ∧ a ≤ 3) ∧ u = sw σ 89 0 1))) 0 0 (gA g) := by
  refine V_met hl9 (by decide) rfl (Nat.le_of_ble_eq_true rfl) ?_
  intro p9 e9 s9 m9 b9 t9 c9 X hr _
  refine V_lv (lv' := [(0, .ref (ga g (89))), (1, .int (iN (a)))]) rfl ?_
  refine V_aload_n X 0 rfl dX7_drop_0 rfl ?_
  refine V_iload_n X 1 rfl dX7_drop_1 rfl ?_
  refine V_iconst X dX7_drop_2 ?_
  refine V_iconst X dX7_drop_3 ?_
  refine V_callS_I X (na := 3) (m_X7_in g l hl9 σ a 0 (3) ha ⟨by decide, by decide⟩ ⟨by decide, by decide⟩) gX7_drop_X7_in rfl rfl rfl (by decide +kernel) ⟨Nat.le_of_ble_eq_true rfl, Nat.le_of_ble_eq_true rfl⟩ rfl rfl (Nat.le_of_ble_eq_true rfl) ⟨Nat.le_of_ble_eq_true rfl, Nat.le_of_ble_eq_true rfl⟩ dX7_drop_4 (fun z1 u2 z1r hp3 => ?_)
  obtain ⟨hz9, hu4⟩ := hp3
  have hu4 := hu4.symm
  subst hu4
  rcases Classical.em (0 ≤ a ∧ a ≤ 3) with hA | hA
  · skip
    rw [if_pos hA] at hz9
    subst hz9
    refine V_if_eq X 14 ⟨by decide, by decide⟩ dX7_drop_7 (by decide) (fun h => absurd h (by first | decide | omega)) (fun _ => ?_)
    refine V_iconst X dX7_drop_10 ?_
    refine V_goto X 15 dX7_drop_11 (by decide) ?_
    refine V_callV_I X (na := 1) (ci := 7) (b0 := 89) (by decide) (rfl) (by decide) rfl (m_X7_fails g l hl9 σ hR 0 ⟨by decide, by decide⟩) gX7_drop_X7_fails rfl rfl rfl (by decide +kernel) ⟨Nat.le_of_ble_eq_true rfl, Nat.le_of_ble_eq_true rfl⟩ rfl rfl (Nat.le_of_ble_eq_true rfl) ⟨Nat.le_of_ble_eq_true rfl, Nat.le_of_ble_eq_true rfl⟩ dX7_drop_15 (fun z5 u6 z5r hp7 => ?_)
    obtain ⟨hz9, hu8⟩ := hp7
    have hu8 := hu8.symm
    subst hu8
    rw [if_neg (by decide)] at hz9
    subst hz9
    refine V_if_eq X 23 ⟨by decide, by decide⟩ dX7_drop_18 (by decide) (fun _ => ?_) (fun h => absurd h (by first | decide | omega))
    refine V_aload_n X 0 rfl dX7_drop_23 rfl ?_
    refine V_get X (ci := 7) (89) (by decide) (rfl) (by decide) rfl (fun _ h => List.mem_cons_of_mem _ (List.mem_append_right _ h)) 26 (by decide) (List.mem_of_getElem? (i := 1) rfl) rfl rfl dX7_drop_24 ?_
    refine V_top (b := σ.1 89 26) (rd_k (by decide)) ?_
    refine V_istore_n X [(2, .int (iN (σ.1 89 26))), (0, .ref (ga g (89))), (1, .int (iN (a)))] dX7_drop_27 rfl (by decide) rfl ?_
    refine V_aload_n X 1 rfl dX7_drop_28 rfl ?_
    refine V_iload_n X 2 rfl dX7_drop_29 rfl ?_
    refine V_put X (ci := 7) (89) (by decide) (rfl) (by decide) rfl (fun _ h => List.mem_cons_of_mem _ (List.mem_append_right _ h)) 26 (by decide) (List.mem_of_getElem? (i := 1) rfl) rfl tyX7 tyX7_ok nmX7 rfl rfl rfl rfl rfl (Nat.le_of_ble_eq_true rfl) dX7_drop_30 ?_
    refine V_iload_n X 0 rfl dX7_drop_33 rfl ?_
    exact V_iret X hr rfl (hR _ _) (by exact Or.inl ⟨hA, rfl, rfl⟩) dX7_drop_34 (by decide) (by decide)
  · skip
    rw [if_neg hA] at hz9
    subst hz9
    refine V_if_eq X 14 ⟨by decide, by decide⟩ dX7_drop_7 (by decide) (fun _ => ?_) (fun h => absurd h (by first | decide | omega))
    refine V_iconst X dX7_drop_14 ?_
    refine V_callV_I X (na := 1) (ci := 7) (b0 := 89) (by decide) (rfl) (by decide) rfl (m_X7_fails g l hl9 σ hR 1 ⟨by decide, by decide⟩) gX7_drop_X7_fails rfl rfl rfl (by decide +kernel) ⟨Nat.le_of_ble_eq_true rfl, Nat.le_of_ble_eq_true rfl⟩ rfl rfl (Nat.le_of_ble_eq_true rfl) ⟨Nat.le_of_ble_eq_true rfl, Nat.le_of_ble_eq_true rfl⟩ dX7_drop_15 (fun z9 u10 z9r hp11 => ?_)
    obtain ⟨hz9, hu12⟩ := hp11
    have hu12 := hu12.symm
    subst hu12
    rw [if_pos (by decide)] at hz9
    subst hz9
    refine V_if_eq X 23 ⟨by decide, by decide⟩ dX7_drop_18 (by decide) (fun h => absurd h (by first | decide | omega)) (fun _ => ?_)
    refine V_iconst X dX7_drop_21 ?_
    exact V_iret X hr rfl ⟨by decide, by decide⟩ (by exact Or.inr ⟨hA, rfl⟩) dX7_drop_22 (by decide) (by decide)
set_option maxRecDepth 100000 in
set_option maxHeartbeats 4000000 in
theorem m_X7_worth (g : Geo) (l : Launch) (hl9 : l.stackTraces = false) (σ : St) (p : Int) (hp : 0 ≤ p ∧ p ≤ 7) : Met l yX7_worth wsX7_worth ({ frames := 0, cells := 0, slots := 0, locals := 0 }) (va_Pc [.int (iN (p))] (World g σ)) (QI g (fun z u => z = wthM p ∧ u = σ)) 0 0 (gA g) := by
  refine V_met hl9 (by decide) rfl (Nat.le_of_ble_eq_true rfl) ?_
  intro p9 e9 s9 m9 b9 t9 c9 X hr _
  refine V_lv (lv' := [(0, .int (iN (p)))]) rfl ?_
  refine V_iload_n X 0 rfl dX7_worth_0 rfl ?_
  refine V_if_ne X 8 ⟨by omega, by omega⟩ dX7_worth_1 (by decide) (fun q1 => ?_) (fun q1 => ?_)
  · skip
    refine V_iload_n X 0 rfl dX7_worth_8 rfl ?_
    refine V_iconst X dX7_worth_9 ?_
    refine V_icmp_ne X 18 ⟨by omega, by omega⟩ ⟨by decide, by decide⟩ dX7_worth_10 (by decide) (fun q2 => ?_) (fun q2 => ?_)
    · skip
      refine V_iload_n X 0 rfl dX7_worth_18 rfl ?_
      refine V_iconst X dX7_worth_19 ?_
      refine V_icmp_ne X 28 ⟨by omega, by omega⟩ ⟨by decide, by decide⟩ dX7_worth_20 (by decide) (fun q3 => ?_) (fun q3 => ?_)
      · skip
        refine V_bipush X (by decide) dX7_worth_28 ?_
        refine V_iload_n X 0 rfl dX7_worth_30 rfl ?_
        refine V_isub X dX7_worth_31 ?_
        exact V_iret X hr rfl ⟨by omega, by omega⟩ (by exact ⟨by unfold wthM; rw [if_neg (by omega), if_neg (by omega), if_neg (by omega)], rfl⟩) dX7_worth_32 (by decide) (by decide)
      · skip
        refine V_bipush X (by decide) dX7_worth_23 ?_
        refine V_goto X 32 dX7_worth_25 (by decide) ?_
        exact V_iret X hr rfl ⟨by decide, by decide⟩ (by exact ⟨by unfold wthM; rw [if_neg (by omega), if_neg (by omega), if_pos (by omega)], rfl⟩) dX7_worth_32 (by decide) (by decide)
    · skip
      refine V_bipush X (by decide) dX7_worth_13 ?_
      refine V_goto X 32 dX7_worth_15 (by decide) ?_
      exact V_iret X hr rfl ⟨by decide, by decide⟩ (by exact ⟨by unfold wthM; rw [if_neg (by omega), if_pos (by omega)], rfl⟩) dX7_worth_32 (by decide) (by decide)
  · skip
    refine V_iconst X dX7_worth_4 ?_
    refine V_goto X 32 dX7_worth_5 (by decide) ?_
    exact V_iret X hr rfl ⟨by decide, by decide⟩ (by exact ⟨by unfold wthM; rw [if_pos (by omega)], rfl⟩) dX7_worth_32 (by decide) (by decide)
set_option maxRecDepth 100000 in
set_option maxHeartbeats 4000000 in
theorem m_X7_pointsOf (g : Geo) (l : Launch) (hl9 : l.stackTraces = false) (σ : St) (hR : RG σ) (n : Nat) (hMB : MB σ n) (R D : Nat) (hRr : σ.1 89 23 = (R : Int)) (hR10 : R ≤ 10) (hDd : σ.1 89 26 = (D : Int)) (d : Int) (hd0 : R32 d) (hD3 : D ≤ 3) : Met l yX7_pointsOf wsX7_pointsOf ({ frames := 3, cells := 0, slots := 0, locals := 72 }) (va_Pc [.ref (ga g (89)), .int (iN (d))] (World g σ)) (QI g (fun z u => z = ptsM σ n R D d ∧ FrN σ u)) 0 0 (gA g) := by
  refine V_met hl9 (by decide) rfl (Nat.le_of_ble_eq_true rfl) ?_
  intro p9 e9 s9 m9 b9 t9 c9 X hr _
  have hn := hMB.1
  have hn30 := hMB.2.1
  have hL4 : 0 ≤ σ.1 89 11 ∧ σ.1 89 11 ≤ 30 := by omega
  refine V_lv (lv' := [(0, .ref (ga g (89))), (1, .int (iN (d)))]) rfl ?_
  refine V_iconst X dX7_pointsOf_0 ?_
  refine V_istore_n X [(2, .int (iN (0))), (0, .ref (ga g (89))), (1, .int (iN (d)))] dX7_pointsOf_1 rfl (by decide) rfl ?_
  refine V_iconst X dX7_pointsOf_2 ?_
  refine V_istore_n X [(3, .int (iN (0))), (2, .int (iN (0))), (0, .ref (ga g (89))), (1, .int (iN (d)))] dX7_pointsOf_3 rfl (by decide) rfl ?_
  refine V_sub (lv' := [(0, .ref (ga g (89))), (1, .int (iN (d))), (2, .int (iN (0))), (3, .int (iN (0)))]) [2, 3, 1, 0] rfl ?_
  refine V_up (N := R) (fun (i : Nat) (u : St) (lw : List (Nat × Value)) => True ∧ [(0, .ref (ga g (89))), (1, .int (iN (d))), (2, .int (iN (sumF (scM σ n d) i))), (3, .int (iN (((i : Nat) : Int))))] = lw ∧ (PA σ n d i u)) (i0 := 0) (Nat.zero_le _) ⟨trivial, rfl, ⟨FrN.rf hR, fun k hk => absurd hk (by omega)⟩⟩ ?_ ?_
  · skip
    rintro u1 _ ⟨-, rfl, hv⟩
    have hsb := sumF_b (f := scM σ n d) (c := 10) (fun l => scM_b) R
    refine V_iload_n X 3 rfl dX7_pointsOf_4 rfl ?_
    refine V_aload_n X 0 rfl dX7_pointsOf_5 rfl ?_
    refine V_get X (ci := 7) (89) (by decide) (rfl) (by decide) rfl (fun _ h => List.mem_cons_of_mem _ (List.mem_append_right _ h)) 23 (by decide) (List.mem_of_getElem? (i := 1) rfl) rfl rfl dX7_pointsOf_6 ?_
    refine V_top (b := ((R : Nat) : Int)) (by rw [hv.1.1 89 (by decide)]; exact hRr) ?_
    refine V_icmp_ge X 42 ⟨by omega, by omega⟩ ⟨by omega, by omega⟩ dX7_pointsOf_9 (by decide) (fun _ => ?_) (fun h => absurd h (by omega))
    refine V_iconst X dX7_pointsOf_42 ?_
    refine V_istore_n X [(3, .int (iN (0))), (0, .ref (ga g (89))), (1, .int (iN (d))), (2, .int (iN (sumF (scM σ n d) R)))] dX7_pointsOf_43 rfl (by decide) rfl ?_
    refine V_sub (lv' := [(0, .ref (ga g (89))), (1, .int (iN (d))), (2, .int (iN (sumF (scM σ n d) R))), (3, .int (iN (0)))]) [1, 2, 3, 0] rfl ?_
    refine V_up (N := (if D ≤ R then D else R)) (fun (i : Nat) (u : St) (lw : List (Nat × Value)) => True ∧ [(0, .ref (ga g (89))), (1, .int (iN (d))), (2, .int (iN ((drM σ n R d i).2))), (3, .int (iN (((i : Nat) : Int))))] = lw ∧ (PD σ n R d i u)) (i0 := 0) (Nat.zero_le _) ⟨trivial, rfl, ⟨hv.1, fun k hk => hv.2 k hk⟩⟩ ?_ ?_
    · skip
      rintro u2 _ ⟨-, rfl, hw⟩
      have hmn : (if D ≤ R then D else R) ≤ D ∧ (if D ≤ R then D else R) ≤ R ∧ ((if D ≤ R then D else R) = D ∨ (if D ≤ R then D else R) = R) := by split <;> omega
      have hdb := drM_b (σ := σ) (n := n) (d := d) (j := if D ≤ R then D else R) hR10 hmn.2.1
      refine V_iload_n X 3 rfl dX7_pointsOf_44 rfl ?_
      refine V_aload_n X 0 rfl dX7_pointsOf_45 rfl ?_
      refine V_get X (ci := 7) (89) (by decide) (rfl) (by decide) rfl (fun _ h => List.mem_cons_of_mem _ (List.mem_append_right _ h)) 26 (by decide) (List.mem_of_getElem? (i := 3) rfl) rfl rfl dX7_pointsOf_46 ?_
      refine V_top (b := ((D : Nat) : Int)) (by rw [hw.1.1 89 (by decide)]; exact hDd) ?_
      refine V_icmp_ge X 132 ⟨by omega, by omega⟩ ⟨by omega, by omega⟩ dX7_pointsOf_49 (by decide) (fun q1 => ?_) (fun q1 => ?_)
      · skip
        refine V_iload_n X 2 rfl dX7_pointsOf_132 rfl ?_
        exact V_iret X hr rfl ⟨by omega, by omega⟩ (by exact ⟨rfl, hw.1⟩) dX7_pointsOf_133 (by decide) (by decide)
      · skip
        refine V_iload_n X 3 rfl dX7_pointsOf_52 rfl ?_
        refine V_aload_n X 0 rfl dX7_pointsOf_53 rfl ?_
        refine V_get X (ci := 7) (89) (by decide) (rfl) (by decide) rfl (fun _ h => List.mem_cons_of_mem _ (List.mem_append_right _ h)) 23 (by decide) (List.mem_of_getElem? (i := 1) rfl) rfl rfl dX7_pointsOf_54 ?_
        refine V_top (b := ((R : Nat) : Int)) (by rw [hw.1.1 89 (by decide)]; exact hRr) ?_
        refine V_icmp_ge X 132 ⟨by omega, by omega⟩ ⟨by omega, by omega⟩ dX7_pointsOf_57 (by decide) (fun _ => ?_) (fun h => absurd h (by omega))
        refine V_iload_n X 2 rfl dX7_pointsOf_132 rfl ?_
        exact V_iret X hr rfl ⟨by omega, by omega⟩ (by exact ⟨rfl, hw.1⟩) dX7_pointsOf_133 (by decide) (by decide)
    · skip
      rintro i u2 _ hiN ⟨-, rfl, hw⟩ kk
      have hiR : i < R := by split at hiN <;> omega
      have hiD : i < D := by split at hiN <;> omega
      have hdb := drM_b (σ := σ) (n := n) (d := d) (j := i) hR10 (by omega)
      refine V_iload_n X 3 rfl dX7_pointsOf_44 rfl ?_
      refine V_aload_n X 0 rfl dX7_pointsOf_45 rfl ?_
      refine V_get X (ci := 7) (89) (by decide) (rfl) (by decide) rfl (fun _ h => List.mem_cons_of_mem _ (List.mem_append_right _ h)) 26 (by decide) (List.mem_of_getElem? (i := 3) rfl) rfl rfl dX7_pointsOf_46 ?_
      refine V_top (b := ((D : Nat) : Int)) (by rw [hw.1.1 89 (by decide)]; exact hDd) ?_
      refine V_icmp_ge X 132 ⟨by omega, by omega⟩ ⟨by omega, by omega⟩ dX7_pointsOf_49 (by decide) (fun h => absurd h (by omega)) (fun _ => ?_)
      refine V_iload_n X 3 rfl dX7_pointsOf_52 rfl ?_
      refine V_aload_n X 0 rfl dX7_pointsOf_53 rfl ?_
      refine V_get X (ci := 7) (89) (by decide) (rfl) (by decide) rfl (fun _ h => List.mem_cons_of_mem _ (List.mem_append_right _ h)) 23 (by decide) (List.mem_of_getElem? (i := 1) rfl) rfl rfl dX7_pointsOf_54 ?_
      refine V_top (b := ((R : Nat) : Int)) (by rw [hw.1.1 89 (by decide)]; exact hRr) ?_
      refine V_icmp_ge X 132 ⟨by omega, by omega⟩ ⟨by omega, by omega⟩ dX7_pointsOf_57 (by decide) (fun h => absurd h (by omega)) (fun _ => ?_)
      refine V_iconst X dX7_pointsOf_60 ?_
      refine V_istore X [(4, .int (iN (0))), (0, .ref (ga g (89))), (1, .int (iN (d))), (2, .int (iN ((drM σ n R d i).2))), (3, .int (iN (((i : Nat) : Int))))] dX7_pointsOf_61 (by decide) rfl ?_
      refine V_iconst X dX7_pointsOf_63 ?_
      refine V_istore X [(5, .int (iN (1))), (4, .int (iN (0))), (0, .ref (ga g (89))), (1, .int (iN (d))), (2, .int (iN ((drM σ n R d i).2))), (3, .int (iN (((i : Nat) : Int))))] dX7_pointsOf_64 (by decide) rfl ?_
      refine V_sub (lv' := [(0, .ref (ga g (89))), (1, .int (iN (d))), (2, .int (iN ((drM σ n R d i).2))), (3, .int (iN (((i : Nat) : Int)))), (4, .int (iN (0))), (5, .int (iN (1)))]) [2, 3, 4, 5, 1, 0] rfl ?_
      refine V_lv (congrArg (fun q : Int => ([(0, .ref (ga g (89))), (1, .int (iN (d))), (2, .int (iN ((drM σ n R d i).2))), (3, .int (iN (((i : Nat) : Int)))), (4, .int (iN q)), (5, .int (iN (1)))] : List (Nat × Value))) (show 0 = ((amG (u2.1 109) 1 : Nat) : Int) from by rw [amG_1]; rfl)) ?_
      refine V_up (N := R) (fun (o : Nat) (u : St) (lw : List (Nat × Value)) => u2 = u ∧ [(0, .ref (ga g (89))), (1, .int (iN (d))), (2, .int (iN ((drM σ n R d i).2))), (3, .int (iN (((i : Nat) : Int)))), (4, .int (iN (((amG (u2.1 109) o : Nat) : Int)))), (5, .int (iN (((o : Nat) : Int))))] = lw ∧ (1 ≤ o ∧ amG (u2.1 109) o < o)) (i0 := 1) (by omega) ⟨rfl, rfl, ⟨Nat.le_refl 1, amG_lt 0⟩⟩ ?_ ?_
      · skip
        rintro _ _ ⟨rfl, rfl, hx⟩
        have hxv := drM_v hw hiR
        have hxa := PD_am hw (by omega)
        refine V_iload X 5 rfl dX7_pointsOf_66 ?_
        refine V_aload_n X 0 rfl dX7_pointsOf_68 rfl ?_
        refine V_get X (ci := 7) (89) (by decide) (rfl) (by decide) rfl (fun _ h => List.mem_cons_of_mem _ (List.mem_append_right _ h)) 23 (by decide) (List.mem_of_getElem? (i := 1) rfl) rfl rfl dX7_pointsOf_69 ?_
        refine V_top (b := ((R : Nat) : Int)) (by rw [hw.1.1 89 (by decide)]; exact hRr) ?_
        refine V_icmp_ge X 107 ⟨by omega, by omega⟩ ⟨by omega, by omega⟩ dX7_pointsOf_72 (by decide) (fun _ => ?_) (fun h => absurd h (by omega))
        refine V_iload_n X 2 rfl dX7_pointsOf_107 rfl ?_
        refine V_aload_n X 0 rfl dX7_pointsOf_108 rfl ?_
        refine V_get X (ci := 7) (89) (by decide) (rfl) (by decide) rfl (fun _ h => List.mem_cons_of_mem _ (List.mem_append_right _ h)) 27 (by decide) (List.mem_of_getElem? (i := 2) rfl) rfl rfl dX7_pointsOf_109 ?_
        refine V_iload X 4 rfl dX7_pointsOf_112 ?_
        refine V_iald X (N := 10) (109) (by decide) (rfl) (rfl) (by decide) (amG (u2.1 109) R) (rfl) (by omega) dX7_pointsOf_114 ?_
        refine V_isub X dX7_pointsOf_115 ?_
        refine V_istore_n X [(2, .int (iN (((drM σ n R d i).2) - (u2.1 (109) (amG (u2.1 109) R))))), (0, .ref (ga g (89))), (1, .int (iN (d))), (3, .int (iN (((i : Nat) : Int)))), (4, .int (iN (((amG (u2.1 109) R : Nat) : Int)))), (5, .int (iN (((R : Nat) : Int))))] dX7_pointsOf_116 rfl (by decide) rfl ?_
        refine V_aload_n X 1 rfl dX7_pointsOf_117 rfl ?_
        refine V_get X (ci := 7) (89) (by decide) (rfl) (by decide) rfl (fun _ h => List.mem_cons_of_mem _ (List.mem_append_right _ h)) 27 (by decide) (List.mem_of_getElem? (i := 2) rfl) rfl rfl dX7_pointsOf_118 ?_
        refine V_iload X 4 rfl dX7_pointsOf_121 ?_
        refine V_bipush X (by decide) dX7_pointsOf_123 ?_
        refine V_iast X (N := 10) (109) (by decide) (rfl) (rfl) (by decide) (amG (u2.1 109) R) (rfl) (by omega) dX7_pointsOf_125 ?_
        refine V_iinc X [(3, .int (iN (((i : Nat) : Int) + 1))), (2, .int (iN (((drM σ n R d i).2) - (u2.1 (109) (amG (u2.1 109) R))))), (0, .ref (ga g (89))), (1, .int (iN (d))), (4, .int (iN (((amG (u2.1 109) R : Nat) : Int)))), (5, .int (iN (((R : Nat) : Int))))] 3 (((i : Nat) : Int) + 1) (rfl) rfl dX7_pointsOf_126 (by decide) rfl ?_
        refine V_goto X 44 dX7_pointsOf_129 (by decide) ?_
        refine V_sub (lv' := [(0, .ref (ga g (89))), (1, .int (iN (d))), (2, .int (iN (((drM σ n R d i).2) - (u2.1 (109) (amG (u2.1 109) R))))), (3, .int (iN (((i : Nat) : Int) + 1)))]) [2, 3, 1, 0] rfl ?_
        refine V_lv (congrArg (fun q : Int => ([(0, .ref (ga g (89))), (1, .int (iN (d))), (2, .int (iN q)), (3, .int (iN (((i : Nat) : Int) + 1)))] : List (Nat × Value))) (show ((drM σ n R d i).2) - (u2.1 (109) (amG (u2.1 109) R)) = (drM σ n R d (i + 1)).2 from PD_v hw hiR)) ?_
        refine V_lv (congrArg (fun q : Int => ([(0, .ref (ga g (89))), (1, .int (iN (d))), (2, .int (iN ((drM σ n R d (i + 1)).2))), (3, .int (iN q))] : List (Nat × Value))) (show ((i : Nat) : Int) + 1 = (((i + 1) : Nat) : Int) from by omega)) ?_
        exact kk _ _ ⟨trivial, rfl, PD_step hw hiR⟩
      · skip
        rintro o _ _ ho ⟨rfl, rfl, hx⟩ kk2
        refine V_iload X 5 rfl dX7_pointsOf_66 ?_
        refine V_aload_n X 0 rfl dX7_pointsOf_68 rfl ?_
        refine V_get X (ci := 7) (89) (by decide) (rfl) (by decide) rfl (fun _ h => List.mem_cons_of_mem _ (List.mem_append_right _ h)) 23 (by decide) (List.mem_of_getElem? (i := 1) rfl) rfl rfl dX7_pointsOf_69 ?_
        refine V_top (b := ((R : Nat) : Int)) (by rw [hw.1.1 89 (by decide)]; exact hRr) ?_
        refine V_icmp_ge X 107 ⟨by omega, by omega⟩ ⟨by omega, by omega⟩ dX7_pointsOf_72 (by decide) (fun h => absurd h (by omega)) (fun _ => ?_)
        refine V_aload_n X 0 rfl dX7_pointsOf_75 rfl ?_
        refine V_get X (ci := 7) (89) (by decide) (rfl) (by decide) rfl (fun _ h => List.mem_cons_of_mem _ (List.mem_append_right _ h)) 27 (by decide) (List.mem_of_getElem? (i := 2) rfl) rfl rfl dX7_pointsOf_76 ?_
        refine V_iload X 5 rfl dX7_pointsOf_79 ?_
        refine V_iald X (N := 10) (109) (by decide) (rfl) (rfl) (by decide) (o) (rfl) (by omega) dX7_pointsOf_81 ?_
        refine V_aload_n X 0 rfl dX7_pointsOf_82 rfl ?_
        refine V_get X (ci := 7) (89) (by decide) (rfl) (by decide) rfl (fun _ h => List.mem_cons_of_mem _ (List.mem_append_right _ h)) 27 (by decide) (List.mem_of_getElem? (i := 2) rfl) rfl rfl dX7_pointsOf_83 ?_
        refine V_iload X 4 rfl dX7_pointsOf_86 ?_
        refine V_iald X (N := 10) (109) (by decide) (rfl) (rfl) (by decide) (amG (u2.1 109) o) (rfl) (by omega) dX7_pointsOf_88 ?_
        refine V_icmp_ge X 97 (hw.1.2.2 _ _) (hw.1.2.2 _ _) dX7_pointsOf_89 (by decide) (fun q2 => ?_) (fun q2 => ?_)
        · skip
          refine V_iload X 4 rfl dX7_pointsOf_97 ?_
          refine V_istore X [(4, .int (iN (((amG (u2.1 109) o : Nat) : Int)))), (0, .ref (ga g (89))), (1, .int (iN (d))), (2, .int (iN ((drM σ n R d i).2))), (3, .int (iN (((i : Nat) : Int)))), (5, .int (iN (((o : Nat) : Int))))] dX7_pointsOf_99 (by decide) rfl ?_
          refine V_iinc X [(5, .int (iN (((o : Nat) : Int) + 1))), (4, .int (iN (((amG (u2.1 109) o : Nat) : Int)))), (0, .ref (ga g (89))), (1, .int (iN (d))), (2, .int (iN ((drM σ n R d i).2))), (3, .int (iN (((i : Nat) : Int))))] 5 (((o : Nat) : Int) + 1) (rfl) rfl dX7_pointsOf_101 (by decide) rfl ?_
          refine V_goto X 66 dX7_pointsOf_104 (by decide) ?_
          refine V_sub (lv' := [(0, .ref (ga g (89))), (1, .int (iN (d))), (2, .int (iN ((drM σ n R d i).2))), (3, .int (iN (((i : Nat) : Int)))), (4, .int (iN (((amG (u2.1 109) o : Nat) : Int)))), (5, .int (iN (((o : Nat) : Int) + 1)))]) [2, 3, 4, 5, 1, 0] rfl ?_
          refine V_lv (congrArg (fun q : Int => ([(0, .ref (ga g (89))), (1, .int (iN (d))), (2, .int (iN ((drM σ n R d i).2))), (3, .int (iN (((i : Nat) : Int)))), (4, .int (iN q)), (5, .int (iN (((o : Nat) : Int) + 1)))] : List (Nat × Value))) (show ((amG (u2.1 109) o : Nat) : Int) = ((amG (u2.1 109) (o + 1) : Nat) : Int) from by rw [amG, if_neg (by omega)])) ?_
          refine V_lv (congrArg (fun q : Int => ([(0, .ref (ga g (89))), (1, .int (iN (d))), (2, .int (iN ((drM σ n R d i).2))), (3, .int (iN (((i : Nat) : Int)))), (4, .int (iN (((amG (u2.1 109) (o + 1) : Nat) : Int)))), (5, .int (iN q))] : List (Nat × Value))) (show ((o : Nat) : Int) + 1 = (((o + 1) : Nat) : Int) from by omega)) ?_
          exact kk2 _ _ ⟨rfl, rfl, ⟨by omega, by have := amG_lt (a := u2.1 109) o; omega⟩⟩
        · skip
          refine V_iload X 5 rfl dX7_pointsOf_92 ?_
          refine V_goto X 99 dX7_pointsOf_94 (by decide) ?_
          refine V_istore X [(4, .int (iN (((o : Nat) : Int)))), (0, .ref (ga g (89))), (1, .int (iN (d))), (2, .int (iN ((drM σ n R d i).2))), (3, .int (iN (((i : Nat) : Int)))), (5, .int (iN (((o : Nat) : Int))))] dX7_pointsOf_99 (by decide) rfl ?_
          refine V_iinc X [(5, .int (iN (((o : Nat) : Int) + 1))), (4, .int (iN (((o : Nat) : Int)))), (0, .ref (ga g (89))), (1, .int (iN (d))), (2, .int (iN ((drM σ n R d i).2))), (3, .int (iN (((i : Nat) : Int))))] 5 (((o : Nat) : Int) + 1) (rfl) rfl dX7_pointsOf_101 (by decide) rfl ?_
          refine V_goto X 66 dX7_pointsOf_104 (by decide) ?_
          refine V_sub (lv' := [(0, .ref (ga g (89))), (1, .int (iN (d))), (2, .int (iN ((drM σ n R d i).2))), (3, .int (iN (((i : Nat) : Int)))), (4, .int (iN (((o : Nat) : Int)))), (5, .int (iN (((o : Nat) : Int) + 1)))]) [2, 3, 4, 5, 1, 0] rfl ?_
          refine V_lv (congrArg (fun q : Int => ([(0, .ref (ga g (89))), (1, .int (iN (d))), (2, .int (iN ((drM σ n R d i).2))), (3, .int (iN (((i : Nat) : Int)))), (4, .int (iN q)), (5, .int (iN (((o : Nat) : Int) + 1)))] : List (Nat × Value))) (show ((o : Nat) : Int) = ((amG (u2.1 109) (o + 1) : Nat) : Int) from by rw [amG, if_pos (by omega)])) ?_
          refine V_lv (congrArg (fun q : Int => ([(0, .ref (ga g (89))), (1, .int (iN (d))), (2, .int (iN ((drM σ n R d i).2))), (3, .int (iN (((i : Nat) : Int)))), (4, .int (iN (((amG (u2.1 109) (o + 1) : Nat) : Int)))), (5, .int (iN q))] : List (Nat × Value))) (show ((o : Nat) : Int) + 1 = (((o + 1) : Nat) : Int) from by omega)) ?_
          exact kk2 _ _ ⟨rfl, rfl, ⟨by omega, by have := amG_lt (a := u2.1 109) o; omega⟩⟩
  · skip
    rintro i u1 _ hiN ⟨-, rfl, hv⟩ kk
    have hsb := sumF_b (f := scM σ n d) (c := 10) (fun l => scM_b) i
    refine V_iload_n X 3 rfl dX7_pointsOf_4 rfl ?_
    refine V_aload_n X 0 rfl dX7_pointsOf_5 rfl ?_
    refine V_get X (ci := 7) (89) (by decide) (rfl) (by decide) rfl (fun _ h => List.mem_cons_of_mem _ (List.mem_append_right _ h)) 23 (by decide) (List.mem_of_getElem? (i := 1) rfl) rfl rfl dX7_pointsOf_6 ?_
    refine V_top (b := ((R : Nat) : Int)) (by rw [hv.1.1 89 (by decide)]; exact hRr) ?_
    refine V_icmp_ge X 42 ⟨by omega, by omega⟩ ⟨by omega, by omega⟩ dX7_pointsOf_9 (by decide) (fun h => absurd h (by omega)) (fun _ => ?_)
    refine V_aload_n X 0 rfl dX7_pointsOf_12 rfl ?_
    refine V_get X (ci := 7) (89) (by decide) (rfl) (by decide) rfl (fun _ h => List.mem_cons_of_mem _ (List.mem_append_right _ h)) 27 (by decide) (List.mem_of_getElem? (i := 2) rfl) rfl rfl dX7_pointsOf_13 ?_
    refine V_iload_n X 3 rfl dX7_pointsOf_16 rfl ?_
    refine V_aload_n X 0 rfl dX7_pointsOf_17 rfl ?_
    refine V_iload_n X 3 rfl dX7_pointsOf_18 rfl ?_
    refine V_iload_n X 1 rfl dX7_pointsOf_19 rfl ?_
    refine V_callV_I X (na := 2) (ci := 7) (b0 := 89) (by decide) (rfl) (by decide) rfl (m_X7_placeNow g l hl9 u1 hv.1.2.2 n (hMB.frN hv.1) ((i : Nat) : Int) d ⟨by omega, by omega⟩ hd0) gX7_pointsOf_X7_placeNow rfl rfl rfl (by decide +kernel) ⟨Nat.le_of_ble_eq_true rfl, Nat.le_of_ble_eq_true rfl⟩ rfl rfl (Nat.le_of_ble_eq_true rfl) ⟨Nat.le_of_ble_eq_true rfl, Nat.le_of_ble_eq_true rfl⟩ dX7_pointsOf_20 (fun z3 u4 z3r hp5 => ?_)
    obtain ⟨hz, hu6⟩ := hp5
    have hu6 := hu6.symm
    subst hu6
    rw [plcM_fr hv.1] at hz
    have hpb := plcM_b (σ := σ) (n := n) (r := ((i : Nat) : Int)) (d := d)
    refine V_callS_I X (na := 1) (m_X7_worth g l hl9 u1 z3 (by omega)) gX7_pointsOf_X7_worth rfl rfl rfl (by decide +kernel) ⟨Nat.le_of_ble_eq_true rfl, Nat.le_of_ble_eq_true rfl⟩ rfl rfl (Nat.le_of_ble_eq_true rfl) ⟨Nat.le_of_ble_eq_true rfl, Nat.le_of_ble_eq_true rfl⟩ dX7_pointsOf_23 (fun z7 u8 z7r hp9 => ?_)
    obtain ⟨hz2, hu10⟩ := hp9
    have hu10 := hu10.symm
    subst hu10
    have hz3 : z7 = scM σ n d i := by rw [hz2, hz]; rfl
    have hcb := scM_b (σ := σ) (n := n) (d := d) (r := i)
    refine V_iast X (N := 10) (109) (by decide) (rfl) (rfl) (by decide) (i) (rfl) (by omega) dX7_pointsOf_26 ?_
    refine V_iload_n X 2 rfl dX7_pointsOf_27 rfl ?_
    refine V_aload_n X 0 rfl dX7_pointsOf_28 rfl ?_
    refine V_get X (ci := 7) (89) (by decide) (rfl) (by decide) rfl (fun _ h => List.mem_cons_of_mem _ (List.mem_append_right _ h)) 27 (by decide) (List.mem_of_getElem? (i := 2) rfl) rfl rfl dX7_pointsOf_29 ?_
    refine V_iload_n X 3 rfl dX7_pointsOf_32 rfl ?_
    refine V_iald X (N := 10) (109) (by decide) (rfl) (rfl) (by decide) (i) (rfl) (by omega) dX7_pointsOf_33 ?_
    refine V_top (b := z7) rd_s ?_
    refine V_iadd X dX7_pointsOf_34 ?_
    refine V_istore_n X [(2, .int (iN ((sumF (scM σ n d) i) + z7))), (0, .ref (ga g (89))), (1, .int (iN (d))), (3, .int (iN (((i : Nat) : Int))))] dX7_pointsOf_35 rfl (by decide) rfl ?_
    refine V_iinc X [(3, .int (iN (((i : Nat) : Int) + 1))), (2, .int (iN ((sumF (scM σ n d) i) + z7))), (0, .ref (ga g (89))), (1, .int (iN (d)))] 3 (((i : Nat) : Int) + 1) (rfl) rfl dX7_pointsOf_36 (by decide) rfl ?_
    refine V_goto X 4 dX7_pointsOf_39 (by decide) ?_
    refine V_sub (lv' := [(0, .ref (ga g (89))), (1, .int (iN (d))), (2, .int (iN ((sumF (scM σ n d) i) + z7))), (3, .int (iN (((i : Nat) : Int) + 1)))]) [2, 3, 1, 0] rfl ?_
    refine V_lv (congrArg (fun q : Int => ([(0, .ref (ga g (89))), (1, .int (iN (d))), (2, .int (iN q)), (3, .int (iN (((i : Nat) : Int) + 1)))] : List (Nat × Value))) (show (sumF (scM σ n d) i) + z7 = sumF (scM σ n d) (i + 1) from by show _ = sumF (scM σ n d) i + scM σ n d i; rw [← hz3])) ?_
    refine V_lv (congrArg (fun q : Int => ([(0, .ref (ga g (89))), (1, .int (iN (d))), (2, .int (iN (sumF (scM σ n d) (i + 1)))), (3, .int (iN q))] : List (Nat × Value))) (show ((i : Nat) : Int) + 1 = (((i + 1) : Nat) : Int) from by omega)) ?_
    exact kk _ _ ⟨trivial, rfl, PA_step hv rfl hz3⟩
set_option maxRecDepth 100000 in
set_option maxHeartbeats 4000000 in
theorem m_X7_winsOf (g : Geo) (l : Launch) (hl9 : l.stackTraces = false) (σ : St) (hR : RG σ) (n : Nat) (hMB : MB σ n) (R : Nat) (hRr : σ.1 89 23 = (R : Int)) (hR10 : R ≤ 10) (d : Int) (hd0 : R32 d) : Met l yX7_winsOf wsX7_winsOf ({ frames := 3, cells := 0, slots := 0, locals := 72 }) (va_Pc [.ref (ga g (89)), .int (iN (d))] (World g σ)) (QI g (fun z u => z = wonM σ n R d ∧ u = σ)) 0 0 (gA g) := by
  refine V_met hl9 (by decide) rfl (Nat.le_of_ble_eq_true rfl) ?_
  intro p9 e9 s9 m9 b9 t9 c9 X hr _
  have hn := hMB.1
  have hn30 := hMB.2.1
  have hL4 : 0 ≤ σ.1 89 11 ∧ σ.1 89 11 ≤ 30 := by omega
  refine V_lv (lv' := [(0, .ref (ga g (89))), (1, .int (iN (d)))]) rfl ?_
  refine V_iconst X dX7_winsOf_0 ?_
  refine V_istore_n X [(2, .int (iN (0))), (0, .ref (ga g (89))), (1, .int (iN (d)))] dX7_winsOf_1 rfl (by decide) rfl ?_
  refine V_iconst X dX7_winsOf_2 ?_
  refine V_istore_n X [(3, .int (iN (0))), (2, .int (iN (0))), (0, .ref (ga g (89))), (1, .int (iN (d)))] dX7_winsOf_3 rfl (by decide) rfl ?_
  refine V_sub (lv' := [(0, .ref (ga g (89))), (1, .int (iN (d))), (2, .int (iN (0))), (3, .int (iN (0)))]) [2, 3, 1, 0] rfl ?_
  refine V_up (N := R) (fun (i : Nat) (u : St) (lw : List (Nat × Value)) => σ = u ∧ [(0, .ref (ga g (89))), (1, .int (iN (d))), (2, .int (iN (sumF (wnM σ n d) i))), (3, .int (iN (((i : Nat) : Int))))] = lw ∧ (True)) (i0 := 0) (Nat.zero_le _) ⟨rfl, rfl, trivial⟩ ?_ ?_
  · skip
    rintro _ _ ⟨rfl, rfl, -⟩
    have hsb := sumF_b (f := wnM σ n d) (c := 1) (fun l => by unfold wnM; split <;> omega) R
    refine V_iload_n X 3 rfl dX7_winsOf_4 rfl ?_
    refine V_aload_n X 0 rfl dX7_winsOf_5 rfl ?_
    refine V_get X (ci := 7) (89) (by decide) (rfl) (by decide) rfl (fun _ h => List.mem_cons_of_mem _ (List.mem_append_right _ h)) 23 (by decide) (List.mem_of_getElem? (i := 1) rfl) rfl rfl dX7_winsOf_6 ?_
    refine V_icmp_ge X 36 ⟨by omega, by omega⟩ (hR _ _) dX7_winsOf_9 (by decide) (fun _ => ?_) (fun h => absurd h (by omega))
    refine V_iload_n X 2 rfl dX7_winsOf_36 rfl ?_
    exact V_iret X hr rfl ⟨by omega, by omega⟩ (by exact ⟨rfl, rfl⟩) dX7_winsOf_37 (by decide) (by decide)
  · skip
    rintro i _ _ hiN ⟨rfl, rfl, -⟩ kk
    have hsb := sumF_b (f := wnM σ n d) (c := 1) (fun l => by unfold wnM; split <;> omega) i
    refine V_iload_n X 3 rfl dX7_winsOf_4 rfl ?_
    refine V_aload_n X 0 rfl dX7_winsOf_5 rfl ?_
    refine V_get X (ci := 7) (89) (by decide) (rfl) (by decide) rfl (fun _ h => List.mem_cons_of_mem _ (List.mem_append_right _ h)) 23 (by decide) (List.mem_of_getElem? (i := 1) rfl) rfl rfl dX7_winsOf_6 ?_
    refine V_icmp_ge X 36 ⟨by omega, by omega⟩ (hR _ _) dX7_winsOf_9 (by decide) (fun h => absurd h (by omega)) (fun _ => ?_)
    refine V_iload_n X 2 rfl dX7_winsOf_12 rfl ?_
    refine V_aload_n X 0 rfl dX7_winsOf_13 rfl ?_
    refine V_iload_n X 3 rfl dX7_winsOf_14 rfl ?_
    refine V_iload_n X 1 rfl dX7_winsOf_15 rfl ?_
    refine V_callV_I X (na := 2) (ci := 7) (b0 := 89) (by decide) (rfl) (by decide) rfl (m_X7_placeNow g l hl9 σ hR n hMB ((i : Nat) : Int) d ⟨by omega, by omega⟩ hd0) gX7_winsOf_X7_placeNow rfl rfl rfl (by decide +kernel) ⟨Nat.le_of_ble_eq_true rfl, Nat.le_of_ble_eq_true rfl⟩ rfl rfl (Nat.le_of_ble_eq_true rfl) ⟨Nat.le_of_ble_eq_true rfl, Nat.le_of_ble_eq_true rfl⟩ dX7_winsOf_16 (fun z1 u2 z1r hp3 => ?_)
    obtain ⟨hz, hu4⟩ := hp3
    have hu4 := hu4.symm
    subst hu4
    refine V_iconst X dX7_winsOf_19 ?_
    refine V_icmp_ne X 27 z1r ⟨by decide, by decide⟩ dX7_winsOf_20 (by decide) (fun q5 => ?_) (fun q5 => ?_)
    · skip
      refine V_iconst X dX7_winsOf_27 ?_
      refine V_iadd X dX7_winsOf_28 ?_
      refine V_istore_n X [(2, .int (iN ((sumF (wnM σ n d) i) + 0))), (0, .ref (ga g (89))), (1, .int (iN (d))), (3, .int (iN (((i : Nat) : Int))))] dX7_winsOf_29 rfl (by decide) rfl ?_
      refine V_iinc X [(3, .int (iN (((i : Nat) : Int) + 1))), (2, .int (iN ((sumF (wnM σ n d) i) + 0))), (0, .ref (ga g (89))), (1, .int (iN (d)))] 3 (((i : Nat) : Int) + 1) (rfl) rfl dX7_winsOf_30 (by decide) rfl ?_
      refine V_goto X 4 dX7_winsOf_33 (by decide) ?_
      refine V_sub (lv' := [(0, .ref (ga g (89))), (1, .int (iN (d))), (2, .int (iN ((sumF (wnM σ n d) i) + 0))), (3, .int (iN (((i : Nat) : Int) + 1)))]) [2, 3, 1, 0] rfl ?_
      refine V_lv (congrArg (fun q : Int => ([(0, .ref (ga g (89))), (1, .int (iN (d))), (2, .int (iN q)), (3, .int (iN (((i : Nat) : Int) + 1)))] : List (Nat × Value))) (show (sumF (wnM σ n d) i) + 0 = sumF (wnM σ n d) (i + 1) from by show _ = sumF (wnM σ n d) i + (if _ then 1 else 0); rw [if_neg (by omega)])) ?_
      refine V_lv (congrArg (fun q : Int => ([(0, .ref (ga g (89))), (1, .int (iN (d))), (2, .int (iN (sumF (wnM σ n d) (i + 1)))), (3, .int (iN q))] : List (Nat × Value))) (show ((i : Nat) : Int) + 1 = (((i + 1) : Nat) : Int) from by omega)) ?_
      exact kk _ _ ⟨rfl, rfl, trivial⟩
    · skip
      refine V_iconst X dX7_winsOf_23 ?_
      refine V_goto X 28 dX7_winsOf_24 (by decide) ?_
      refine V_iadd X dX7_winsOf_28 ?_
      refine V_istore_n X [(2, .int (iN ((sumF (wnM σ n d) i) + 1))), (0, .ref (ga g (89))), (1, .int (iN (d))), (3, .int (iN (((i : Nat) : Int))))] dX7_winsOf_29 rfl (by decide) rfl ?_
      refine V_iinc X [(3, .int (iN (((i : Nat) : Int) + 1))), (2, .int (iN ((sumF (wnM σ n d) i) + 1))), (0, .ref (ga g (89))), (1, .int (iN (d)))] 3 (((i : Nat) : Int) + 1) (rfl) rfl dX7_winsOf_30 (by decide) rfl ?_
      refine V_goto X 4 dX7_winsOf_33 (by decide) ?_
      refine V_sub (lv' := [(0, .ref (ga g (89))), (1, .int (iN (d))), (2, .int (iN ((sumF (wnM σ n d) i) + 1))), (3, .int (iN (((i : Nat) : Int) + 1)))]) [2, 3, 1, 0] rfl ?_
      refine V_lv (congrArg (fun q : Int => ([(0, .ref (ga g (89))), (1, .int (iN (d))), (2, .int (iN q)), (3, .int (iN (((i : Nat) : Int) + 1)))] : List (Nat × Value))) (show (sumF (wnM σ n d) i) + 1 = sumF (wnM σ n d) (i + 1) from by show _ = sumF (wnM σ n d) i + (if _ then 1 else 0); rw [if_pos (by omega)])) ?_
      refine V_lv (congrArg (fun q : Int => ([(0, .ref (ga g (89))), (1, .int (iN (d))), (2, .int (iN (sumF (wnM σ n d) (i + 1)))), (3, .int (iN q))] : List (Nat × Value))) (show ((i : Nat) : Int) + 1 = (((i + 1) : Nat) : Int) from by omega)) ?_
      exact kk _ _ ⟨rfl, rfl, trivial⟩
set_option maxRecDepth 100000 in
set_option maxHeartbeats 4000000 in
theorem m_X7_isNoDriver (g : Geo) (l : Launch) (hl9 : l.stackTraces = false) (σ : St) (a : Int) (ha : R32 a) : Met l yX7_isNoDriver wsX7_isNoDriver ({ frames := 1, cells := 0, slots := 0, locals := 22 }) (va_Pc [.int (iN (a))] (World g σ)) (QI g (fun z u => z = (if 0 ≤ a ∧ a < 6 then 0 else 1) ∧ u = σ)) 0 0 (gA g) := by
  refine V_met hl9 (by decide) rfl (Nat.le_of_ble_eq_true rfl) ?_
  intro p9 e9 s9 m9 b9 t9 c9 X hr _
  refine V_lv (lv' := [(0, .int (iN (a)))]) rfl ?_
  refine V_iload_n X 0 rfl dX7_isNoDriver_0 rfl ?_
  refine V_iconst X dX7_isNoDriver_1 ?_
  refine V_iconst X dX7_isNoDriver_2 ?_
  refine V_callS_I X (na := 3) (m_X7_in g l hl9 σ a 0 (5) ha ⟨by decide, by decide⟩ ⟨by decide, by decide⟩) gX7_isNoDriver_X7_in rfl rfl rfl (by decide +kernel) ⟨Nat.le_of_ble_eq_true rfl, Nat.le_of_ble_eq_true rfl⟩ rfl rfl (Nat.le_of_ble_eq_true rfl) ⟨Nat.le_of_ble_eq_true rfl, Nat.le_of_ble_eq_true rfl⟩ dX7_isNoDriver_3 (fun z1 u2 z1r hp3 => ?_)
  obtain ⟨hz9, hu4⟩ := hp3
  have hu4 := hu4.symm
  subst hu4
  rcases Classical.em (0 ≤ a ∧ a ≤ 5) with hA | hA
  · skip
    rw [if_pos hA] at hz9
    subst hz9
    refine V_if_ne X 13 ⟨by decide, by decide⟩ dX7_isNoDriver_6 (by decide) (fun _ => ?_) (fun h => absurd h (by first | decide | omega))
    refine V_iconst X dX7_isNoDriver_13 ?_
    exact V_iret X hr (iN_bool (Or.inl rfl)).1 ⟨by decide, by decide⟩ (by exact ⟨by rw [if_pos (by omega)], rfl⟩) dX7_isNoDriver_14 (by decide) (by decide)
  · skip
    rw [if_neg hA] at hz9
    subst hz9
    refine V_if_ne X 13 ⟨by decide, by decide⟩ dX7_isNoDriver_6 (by decide) (fun h => absurd h (by first | decide | omega)) (fun _ => ?_)
    refine V_iconst X dX7_isNoDriver_9 ?_
    refine V_goto X 14 dX7_isNoDriver_10 (by decide) ?_
    exact V_iret X hr (iN_bool (Or.inr rfl)).1 ⟨by decide, by decide⟩ (by exact ⟨by rw [if_neg (by omega)], rfl⟩) dX7_isNoDriver_14 (by decide) (by decide)
set_option maxRecDepth 100000 in
set_option maxHeartbeats 4000000 in
theorem m_X7_points (g : Geo) (l : Launch) (hl9 : l.stackTraces = false) (σ : St) (hR : RG σ) (n : Nat) (hMB : MB σ n) (R D : Nat) (hRr : σ.1 89 23 = (R : Int)) (hR10 : R ≤ 10) (hDd : σ.1 89 26 = (D : Int)) (hD3 : D ≤ 3) (d : Int) (hd0 : R32 d) : Met l yX7_points wsX7_points ({ frames := 4, cells := 0, slots := 0, locals := 97 }) (va_Pc [.ref (ga g (89)), .int (iN (d))] (World g σ)) (QI g (fun z u => ((0 ≤ d ∧ d < 6) ∧ z = ptsM σ n R D d ∧ u.1 89 0 = 0 ∧ FrM σ u) ∨ (¬ (0 ≤ d ∧ d < 6) ∧ u.1 89 0 = 1 ∧ FrM σ u))) 0 0 (gA g) := by
  refine V_met hl9 (by decide) rfl (Nat.le_of_ble_eq_true rfl) ?_
  intro p9 e9 s9 m9 b9 t9 c9 X hr _
  refine V_lv (lv' := [(0, .ref (ga g (89))), (1, .int (iN (d)))]) rfl ?_
  refine V_aload_n X 0 rfl dX7_points_0 rfl ?_
  refine V_iload_n X 1 rfl dX7_points_1 rfl ?_
  refine V_callS_I X (na := 1) (m_X7_isNoDriver g l hl9 σ d hd0) gX7_points_X7_isNoDriver rfl rfl rfl (by decide +kernel) ⟨Nat.le_of_ble_eq_true rfl, Nat.le_of_ble_eq_true rfl⟩ rfl rfl (Nat.le_of_ble_eq_true rfl) ⟨Nat.le_of_ble_eq_true rfl, Nat.le_of_ble_eq_true rfl⟩ dX7_points_2 (fun z1 u2 z1r hp3 => ?_)
  obtain ⟨hz9, hu4⟩ := hp3
  have hu4 := hu4.symm
  subst hu4
  rcases Classical.em (0 ≤ d ∧ d < 6) with hA | hA
  · skip
    rw [if_pos hA] at hz9
    subst hz9
    refine V_if_eq X 12 ⟨by decide, by decide⟩ dX7_points_5 (by decide) (fun _ => ?_) (fun h => absurd h (by first | decide | omega))
    refine V_iconst X dX7_points_12 ?_
    refine V_callV_I X (na := 1) (ci := 7) (b0 := 89) (by decide) (rfl) (by decide) rfl (m_X7_fails g l hl9 σ hR 0 ⟨by decide, by decide⟩) gX7_points_X7_fails rfl rfl rfl (by decide +kernel) ⟨Nat.le_of_ble_eq_true rfl, Nat.le_of_ble_eq_true rfl⟩ rfl rfl (Nat.le_of_ble_eq_true rfl) ⟨Nat.le_of_ble_eq_true rfl, Nat.le_of_ble_eq_true rfl⟩ dX7_points_13 (fun z5 u6 z5r hp7 => ?_)
    obtain ⟨hz9, hu8⟩ := hp7
    have hu8 := hu8.symm
    subst hu8
    rw [if_neg (by decide)] at hz9
    subst hz9
    refine V_if_eq X 23 ⟨by decide, by decide⟩ dX7_points_16 (by decide) (fun _ => ?_) (fun h => absurd h (by first | decide | omega))
    refine V_aload_n X 0 rfl dX7_points_23 rfl ?_
    refine V_iload_n X 1 rfl dX7_points_24 rfl ?_
    refine V_callV_I X (na := 1) (ci := 7) (b0 := 89) (by decide) (rfl) (by decide) rfl (m_X7_pointsOf g l hl9 (sw σ 89 0 0) (hR.sw _ _ ⟨by decide, by decide⟩) n hMB R D hRr hR10 hDd d hd0 hD3) gX7_points_X7_pointsOf rfl rfl rfl (by decide +kernel) ⟨Nat.le_of_ble_eq_true rfl, Nat.le_of_ble_eq_true rfl⟩ rfl rfl (Nat.le_of_ble_eq_true rfl) ⟨Nat.le_of_ble_eq_true rfl, Nat.le_of_ble_eq_true rfl⟩ dX7_points_25 (fun z9 u10 z9r hp11 => ?_)
    obtain ⟨hz, hf⟩ := hp11
    exact V_iret X hr rfl z9r (by exact Or.inl ⟨hA, hz, frN_M hf⟩) dX7_points_28 (by decide) (by decide)
  · skip
    rw [if_neg hA] at hz9
    subst hz9
    refine V_if_eq X 12 ⟨by decide, by decide⟩ dX7_points_5 (by decide) (fun h => absurd h (by first | decide | omega)) (fun _ => ?_)
    refine V_iconst X dX7_points_8 ?_
    refine V_goto X 13 dX7_points_9 (by decide) ?_
    refine V_callV_I X (na := 1) (ci := 7) (b0 := 89) (by decide) (rfl) (by decide) rfl (m_X7_fails g l hl9 σ hR 1 ⟨by decide, by decide⟩) gX7_points_X7_fails rfl rfl rfl (by decide +kernel) ⟨Nat.le_of_ble_eq_true rfl, Nat.le_of_ble_eq_true rfl⟩ rfl rfl (Nat.le_of_ble_eq_true rfl) ⟨Nat.le_of_ble_eq_true rfl, Nat.le_of_ble_eq_true rfl⟩ dX7_points_13 (fun z12 u13 z12r hp14 => ?_)
    obtain ⟨hz9, hu15⟩ := hp14
    have hu15 := hu15.symm
    subst hu15
    rw [if_pos (by decide)] at hz9
    subst hz9
    refine V_if_eq X 23 ⟨by decide, by decide⟩ dX7_points_16 (by decide) (fun h => absurd h (by first | decide | omega)) (fun _ => ?_)
    refine V_iconst X dX7_points_19 ?_
    refine V_goto X 28 dX7_points_20 (by decide) ?_
    exact V_iret X hr rfl ⟨by decide, by decide⟩ (by exact Or.inr ⟨hA, rfl, (FrM.rf hR).sw 0 (by omega) ⟨by decide, by decide⟩⟩) dX7_points_28 (by decide) (by decide)
set_option maxRecDepth 100000 in
set_option maxHeartbeats 4000000 in
theorem m_X7_wins (g : Geo) (l : Launch) (hl9 : l.stackTraces = false) (σ : St) (hR : RG σ) (n : Nat) (hMB : MB σ n) (R : Nat) (hRr : σ.1 89 23 = (R : Int)) (hR10 : R ≤ 10) (d : Int) (hd0 : R32 d) : Met l yX7_wins wsX7_wins ({ frames := 4, cells := 0, slots := 0, locals := 95 }) (va_Pc [.ref (ga g (89)), .int (iN (d))] (World g σ)) (QI g (fun z u => ((0 ≤ d ∧ d < 6) ∧ z = wonM σ n R d ∧ u = sw σ 89 0 0) ∨ (¬ (0 ≤ d ∧ d < 6) ∧ u = sw σ 89 0 1))) 0 0 (gA g) := by
  refine V_met hl9 (by decide) rfl (Nat.le_of_ble_eq_true rfl) ?_
  intro p9 e9 s9 m9 b9 t9 c9 X hr _
  refine V_lv (lv' := [(0, .ref (ga g (89))), (1, .int (iN (d)))]) rfl ?_
  refine V_aload_n X 0 rfl dX7_wins_0 rfl ?_
  refine V_iload_n X 1 rfl dX7_wins_1 rfl ?_
  refine V_callS_I X (na := 1) (m_X7_isNoDriver g l hl9 σ d hd0) gX7_wins_X7_isNoDriver rfl rfl rfl (by decide +kernel) ⟨Nat.le_of_ble_eq_true rfl, Nat.le_of_ble_eq_true rfl⟩ rfl rfl (Nat.le_of_ble_eq_true rfl) ⟨Nat.le_of_ble_eq_true rfl, Nat.le_of_ble_eq_true rfl⟩ dX7_wins_2 (fun z1 u2 z1r hp3 => ?_)
  obtain ⟨hz9, hu4⟩ := hp3
  have hu4 := hu4.symm
  subst hu4
  rcases Classical.em (0 ≤ d ∧ d < 6) with hA | hA
  · skip
    rw [if_pos hA] at hz9
    subst hz9
    refine V_if_eq X 12 ⟨by decide, by decide⟩ dX7_wins_5 (by decide) (fun _ => ?_) (fun h => absurd h (by first | decide | omega))
    refine V_iconst X dX7_wins_12 ?_
    refine V_callV_I X (na := 1) (ci := 7) (b0 := 89) (by decide) (rfl) (by decide) rfl (m_X7_fails g l hl9 σ hR 0 ⟨by decide, by decide⟩) gX7_wins_X7_fails rfl rfl rfl (by decide +kernel) ⟨Nat.le_of_ble_eq_true rfl, Nat.le_of_ble_eq_true rfl⟩ rfl rfl (Nat.le_of_ble_eq_true rfl) ⟨Nat.le_of_ble_eq_true rfl, Nat.le_of_ble_eq_true rfl⟩ dX7_wins_13 (fun z5 u6 z5r hp7 => ?_)
    obtain ⟨hz9, hu8⟩ := hp7
    have hu8 := hu8.symm
    subst hu8
    rw [if_neg (by decide)] at hz9
    subst hz9
    refine V_if_eq X 23 ⟨by decide, by decide⟩ dX7_wins_16 (by decide) (fun _ => ?_) (fun h => absurd h (by first | decide | omega))
    refine V_aload_n X 0 rfl dX7_wins_23 rfl ?_
    refine V_iload_n X 1 rfl dX7_wins_24 rfl ?_
    refine V_callV_I X (na := 1) (ci := 7) (b0 := 89) (by decide) (rfl) (by decide) rfl (m_X7_winsOf g l hl9 (sw σ 89 0 0) (hR.sw _ _ ⟨by decide, by decide⟩) n hMB R hRr hR10 d hd0) gX7_wins_X7_winsOf rfl rfl rfl (by decide +kernel) ⟨Nat.le_of_ble_eq_true rfl, Nat.le_of_ble_eq_true rfl⟩ rfl rfl (Nat.le_of_ble_eq_true rfl) ⟨Nat.le_of_ble_eq_true rfl, Nat.le_of_ble_eq_true rfl⟩ dX7_wins_25 (fun z9 u10 z9r hp11 => ?_)
    obtain ⟨hz, hu12⟩ := hp11
    have hu12 := hu12.symm
    subst hu12
    exact V_iret X hr rfl z9r (by exact Or.inl ⟨hA, hz, rfl⟩) dX7_wins_28 (by decide) (by decide)
  · skip
    rw [if_neg hA] at hz9
    subst hz9
    refine V_if_eq X 12 ⟨by decide, by decide⟩ dX7_wins_5 (by decide) (fun h => absurd h (by first | decide | omega)) (fun _ => ?_)
    refine V_iconst X dX7_wins_8 ?_
    refine V_goto X 13 dX7_wins_9 (by decide) ?_
    refine V_callV_I X (na := 1) (ci := 7) (b0 := 89) (by decide) (rfl) (by decide) rfl (m_X7_fails g l hl9 σ hR 1 ⟨by decide, by decide⟩) gX7_wins_X7_fails rfl rfl rfl (by decide +kernel) ⟨Nat.le_of_ble_eq_true rfl, Nat.le_of_ble_eq_true rfl⟩ rfl rfl (Nat.le_of_ble_eq_true rfl) ⟨Nat.le_of_ble_eq_true rfl, Nat.le_of_ble_eq_true rfl⟩ dX7_wins_13 (fun z13 u14 z13r hp15 => ?_)
    obtain ⟨hz9, hu16⟩ := hp15
    have hu16 := hu16.symm
    subst hu16
    rw [if_pos (by decide)] at hz9
    subst hz9
    refine V_if_eq X 23 ⟨by decide, by decide⟩ dX7_wins_16 (by decide) (fun h => absurd h (by first | decide | omega)) (fun _ => ?_)
    refine V_iconst X dX7_wins_19 ?_
    refine V_goto X 28 dX7_wins_20 (by decide) ?_
    exact V_iret X hr rfl ⟨by decide, by decide⟩ (by exact Or.inr ⟨hA, rfl⟩) dX7_wins_28 (by decide) (by decide)
set_option maxRecDepth 100000 in
set_option maxHeartbeats 4000000 in
theorem m_X7_standing (g : Geo) (l : Launch) (hl9 : l.stackTraces = false) (σ : St) (hR : RG σ) (n : Nat) (hMB : MB σ n) (R D : Nat) (hRr : σ.1 89 23 = (R : Int)) (hR10 : R ≤ 10) (hDd : σ.1 89 26 = (D : Int)) (hD3 : D ≤ 3) (d : Int) (hd0 : R32 d) : Met l yX7_standing wsX7_standing ({ frames := 4, cells := 0, slots := 0, locals := 97 }) (va_Pc [.ref (ga g (89)), .int (iN (d))] (World g σ)) (QI g (fun z u => ((0 ≤ d ∧ d < 6) ∧ z = dbF (fun o => ptsM σ n R D ((o : Nat) : Int)) (fun o => wonM σ n R ((o : Nat) : Int)) d 6 ∧ u.1 89 0 = 0 ∧ FrM σ u) ∨ (¬ (0 ≤ d ∧ d < 6) ∧ u.1 89 0 = 1 ∧ FrM σ u))) 0 0 (gA g) := by
  refine V_met hl9 (by decide) rfl (Nat.le_of_ble_eq_true rfl) ?_
  intro p9 e9 s9 m9 b9 t9 c9 X hr _
  refine V_lv (lv' := [(0, .ref (ga g (89))), (1, .int (iN (d)))]) rfl ?_
  refine V_aload_n X 0 rfl dX7_standing_0 rfl ?_
  refine V_iload_n X 1 rfl dX7_standing_1 rfl ?_
  refine V_callS_I X (na := 1) (m_X7_isNoDriver g l hl9 σ d hd0) gX7_standing_X7_isNoDriver rfl rfl rfl (by decide +kernel) ⟨Nat.le_of_ble_eq_true rfl, Nat.le_of_ble_eq_true rfl⟩ rfl rfl (Nat.le_of_ble_eq_true rfl) ⟨Nat.le_of_ble_eq_true rfl, Nat.le_of_ble_eq_true rfl⟩ dX7_standing_2 (fun z1 u2 z1r hp3 => ?_)
  obtain ⟨hz9, hu4⟩ := hp3
  have hu4 := hu4.symm
  subst hu4
  rcases Classical.em (0 ≤ d ∧ d < 6) with hA | hA
  · skip
    rw [if_pos hA] at hz9
    subst hz9
    refine V_if_eq X 12 ⟨by decide, by decide⟩ dX7_standing_5 (by decide) (fun _ => ?_) (fun h => absurd h (by first | decide | omega))
    refine V_iconst X dX7_standing_12 ?_
    refine V_callV_I X (na := 1) (ci := 7) (b0 := 89) (by decide) (rfl) (by decide) rfl (m_X7_fails g l hl9 σ hR 0 ⟨by decide, by decide⟩) gX7_standing_X7_fails rfl rfl rfl (by decide +kernel) ⟨Nat.le_of_ble_eq_true rfl, Nat.le_of_ble_eq_true rfl⟩ rfl rfl (Nat.le_of_ble_eq_true rfl) ⟨Nat.le_of_ble_eq_true rfl, Nat.le_of_ble_eq_true rfl⟩ dX7_standing_13 (fun z5 u6 z5r hp7 => ?_)
    obtain ⟨hz9, hu8⟩ := hp7
    have hu8 := hu8.symm
    subst hu8
    rw [if_neg (by decide)] at hz9
    subst hz9
    refine V_if_eq X 21 ⟨by decide, by decide⟩ dX7_standing_16 (by decide) (fun _ => ?_) (fun h => absurd h (by first | decide | omega))
    obtain ⟨w, hw⟩ : ∃ w, w = sw σ 89 0 0 := ⟨_, rfl⟩
    refine V_st (σ' := w) hw.symm ?_
    have hRw : RG w := by rw [hw]; exact (hR.sw _ _ ⟨by decide, by decide⟩)
    have hMBw : MB w n := by rw [hw]; exact hMB
    have hRrw : w.1 89 23 = (R : Int) := by rw [hw]; exact hRr
    have hDdw : w.1 89 26 = (D : Int) := by rw [hw]; exact hDd
    refine V_iconst X dX7_standing_21 ?_
    refine V_istore_n X [(2, .int (iN (0))), (0, .ref (ga g (89))), (1, .int (iN (d)))] dX7_standing_22 rfl (by decide) rfl ?_
    refine V_iconst X dX7_standing_23 ?_
    refine V_istore_n X [(3, .int (iN (0))), (2, .int (iN (0))), (0, .ref (ga g (89))), (1, .int (iN (d)))] dX7_standing_24 rfl (by decide) rfl ?_
    refine V_sub (lv' := [(0, .ref (ga g (89))), (1, .int (iN (d))), (2, .int (iN (0))), (3, .int (iN (0)))]) [2, 3, 1, 0] rfl ?_
    refine V_up (N := 6) (fun (i : Nat) (u : St) (lw : List (Nat × Value)) => True ∧ [(0, .ref (ga g (89))), (1, .int (iN (d))), (2, .int (iN (dbF (fun o => ptsM w n R D ((o : Nat) : Int)) (fun o => wonM w n R ((o : Nat) : Int)) d i))), (3, .int (iN (((i : Nat) : Int))))] = lw ∧ (FrN w u)) (i0 := 0) (Nat.zero_le _) ⟨trivial, rfl, FrN.rf hRw⟩ ?_ ?_
    · skip
      rintro u1 _ ⟨-, rfl, hv⟩
      have hdb := dbF_b (p := (fun o => ptsM w n R D ((o : Nat) : Int))) (w := (fun o => wonM w n R ((o : Nat) : Int))) (pl := d) 6
      refine V_iload_n X 3 rfl dX7_standing_25 rfl ?_
      refine V_bipush X (by decide) dX7_standing_26 ?_
      refine V_icmp_ge X 133 ⟨by omega, by omega⟩ ⟨by decide, by decide⟩ dX7_standing_28 (by decide) (fun _ => ?_) (fun h => absurd h (by decide))
      refine V_iload_n X 2 rfl dX7_standing_133 rfl ?_
      exact V_iret X hr rfl ⟨by omega, by omega⟩ (by exact Or.inl ⟨hA, by subst hw; rfl, frN_M (hw ▸ hv : FrN (sw σ 89 0 0) u1)⟩) dX7_standing_134 (by decide) (by decide)
    · skip
      rintro i u1 _ hiN ⟨-, rfl, hv⟩ kk
      have hdb := dbF_b (p := (fun o => ptsM w n R D ((o : Nat) : Int))) (w := (fun o => wonM w n R ((o : Nat) : Int))) (pl := d) i
      refine V_iload_n X 3 rfl dX7_standing_25 rfl ?_
      refine V_bipush X (by decide) dX7_standing_26 ?_
      refine V_icmp_ge X 133 ⟨by omega, by omega⟩ ⟨by decide, by decide⟩ dX7_standing_28 (by decide) (fun h => absurd h (by omega)) (fun _ => ?_)
      refine V_iconst X dX7_standing_31 ?_
      refine V_istore X [(4, .int (iN (0))), (0, .ref (ga g (89))), (1, .int (iN (d))), (2, .int (iN (dbF (fun o => ptsM w n R D ((o : Nat) : Int)) (fun o => wonM w n R ((o : Nat) : Int)) d i))), (3, .int (iN (((i : Nat) : Int))))] dX7_standing_32 (by decide) rfl ?_
      refine V_iconst X dX7_standing_34 ?_
      refine V_istore X [(5, .int (iN (0))), (4, .int (iN (0))), (0, .ref (ga g (89))), (1, .int (iN (d))), (2, .int (iN (dbF (fun o => ptsM w n R D ((o : Nat) : Int)) (fun o => wonM w n R ((o : Nat) : Int)) d i))), (3, .int (iN (((i : Nat) : Int))))] dX7_standing_35 (by decide) rfl ?_
      refine V_sub (lv' := [(0, .ref (ga g (89))), (1, .int (iN (d))), (2, .int (iN (dbF (fun o => ptsM w n R D ((o : Nat) : Int)) (fun o => wonM w n R ((o : Nat) : Int)) d i))), (3, .int (iN (((i : Nat) : Int)))), (4, .int (iN (0))), (5, .int (iN (0)))]) [2, 3, 4, 5, 1, 0] rfl ?_
      refine V_up (N := 6) (fun (o : Nat) (u : St) (lw : List (Nat × Value)) => True ∧ [(0, .ref (ga g (89))), (1, .int (iN (d))), (2, .int (iN (dbF (fun o => ptsM w n R D ((o : Nat) : Int)) (fun o => wonM w n R ((o : Nat) : Int)) d i))), (3, .int (iN (((i : Nat) : Int)))), (4, .int (iN (sumF (fun o => asI (fun o => ptsM w n R D ((o : Nat) : Int)) (fun o => wonM w n R ((o : Nat) : Int)) o i) o))), (5, .int (iN (((o : Nat) : Int))))] = lw ∧ (FrN w u)) (i0 := 0) (Nat.zero_le _) ⟨trivial, rfl, hv⟩ ?_ ?_
      · skip
        rintro u2 _ ⟨-, rfl, hx⟩
        have hsb := sumF_b (f := fun o => asI (fun o => ptsM w n R D ((o : Nat) : Int)) (fun o => wonM w n R ((o : Nat) : Int)) o i) (c := 1) (fun l => asI_b) 6
        refine V_iload X 5 rfl dX7_standing_37 ?_
        refine V_bipush X (by decide) dX7_standing_39 ?_
        refine V_icmp_ge X 115 ⟨by omega, by omega⟩ ⟨by decide, by decide⟩ dX7_standing_41 (by decide) (fun _ => ?_) (fun h => absurd h (by decide))
        refine V_iload X 4 rfl dX7_standing_115 ?_
        refine V_iload_n X 1 rfl dX7_standing_117 rfl ?_
        refine V_icmp_ne X 125 ⟨by omega, by omega⟩ hd0 dX7_standing_118 (by decide) (fun q9 => ?_) (fun q9 => ?_)
        · skip
          refine V_iload_n X 2 rfl dX7_standing_125 rfl ?_
          refine V_istore_n X [(2, .int (iN (dbF (fun o => ptsM w n R D ((o : Nat) : Int)) (fun o => wonM w n R ((o : Nat) : Int)) d i))), (0, .ref (ga g (89))), (1, .int (iN (d))), (3, .int (iN (((i : Nat) : Int)))), (4, .int (iN (sumF (fun o => asI (fun o => ptsM w n R D ((o : Nat) : Int)) (fun o => wonM w n R ((o : Nat) : Int)) o i) 6))), (5, .int (iN (((6 : Nat) : Int))))] dX7_standing_126 rfl (by decide) rfl ?_
          refine V_iinc X [(3, .int (iN (((i : Nat) : Int) + 1))), (2, .int (iN (dbF (fun o => ptsM w n R D ((o : Nat) : Int)) (fun o => wonM w n R ((o : Nat) : Int)) d i))), (0, .ref (ga g (89))), (1, .int (iN (d))), (4, .int (iN (sumF (fun o => asI (fun o => ptsM w n R D ((o : Nat) : Int)) (fun o => wonM w n R ((o : Nat) : Int)) o i) 6))), (5, .int (iN (((6 : Nat) : Int))))] 3 (((i : Nat) : Int) + 1) (rfl) rfl dX7_standing_127 (by decide) rfl ?_
          refine V_goto X 25 dX7_standing_130 (by decide) ?_
          refine V_sub (lv' := [(0, .ref (ga g (89))), (1, .int (iN (d))), (2, .int (iN (dbF (fun o => ptsM w n R D ((o : Nat) : Int)) (fun o => wonM w n R ((o : Nat) : Int)) d i))), (3, .int (iN (((i : Nat) : Int) + 1)))]) [2, 3, 1, 0] rfl ?_
          refine V_lv (congrArg (fun q : Int => ([(0, .ref (ga g (89))), (1, .int (iN (d))), (2, .int (iN q)), (3, .int (iN (((i : Nat) : Int) + 1)))] : List (Nat × Value))) (show dbF (fun o => ptsM w n R D ((o : Nat) : Int)) (fun o => wonM w n R ((o : Nat) : Int)) d i = dbF (fun o => ptsM w n R D ((o : Nat) : Int)) (fun o => wonM w n R ((o : Nat) : Int)) d (i + 1) from by show _ = (if _ then _ else _); rw [if_neg (by omega)])) ?_
          refine V_lv (congrArg (fun q : Int => ([(0, .ref (ga g (89))), (1, .int (iN (d))), (2, .int (iN (dbF (fun o => ptsM w n R D ((o : Nat) : Int)) (fun o => wonM w n R ((o : Nat) : Int)) d (i + 1)))), (3, .int (iN q))] : List (Nat × Value))) (show ((i : Nat) : Int) + 1 = (((i + 1) : Nat) : Int) from by omega)) ?_
          exact kk _ _ ⟨trivial, rfl, hx⟩
        · skip
          refine V_iload_n X 3 rfl dX7_standing_121 rfl ?_
          refine V_goto X 126 dX7_standing_122 (by decide) ?_
          refine V_istore_n X [(2, .int (iN (((i : Nat) : Int)))), (0, .ref (ga g (89))), (1, .int (iN (d))), (3, .int (iN (((i : Nat) : Int)))), (4, .int (iN (sumF (fun o => asI (fun o => ptsM w n R D ((o : Nat) : Int)) (fun o => wonM w n R ((o : Nat) : Int)) o i) 6))), (5, .int (iN (((6 : Nat) : Int))))] dX7_standing_126 rfl (by decide) rfl ?_
          refine V_iinc X [(3, .int (iN (((i : Nat) : Int) + 1))), (2, .int (iN (((i : Nat) : Int)))), (0, .ref (ga g (89))), (1, .int (iN (d))), (4, .int (iN (sumF (fun o => asI (fun o => ptsM w n R D ((o : Nat) : Int)) (fun o => wonM w n R ((o : Nat) : Int)) o i) 6))), (5, .int (iN (((6 : Nat) : Int))))] 3 (((i : Nat) : Int) + 1) (rfl) rfl dX7_standing_127 (by decide) rfl ?_
          refine V_goto X 25 dX7_standing_130 (by decide) ?_
          refine V_sub (lv' := [(0, .ref (ga g (89))), (1, .int (iN (d))), (2, .int (iN (((i : Nat) : Int)))), (3, .int (iN (((i : Nat) : Int) + 1)))]) [2, 3, 1, 0] rfl ?_
          refine V_lv (congrArg (fun q : Int => ([(0, .ref (ga g (89))), (1, .int (iN (d))), (2, .int (iN q)), (3, .int (iN (((i : Nat) : Int) + 1)))] : List (Nat × Value))) (show ((i : Nat) : Int) = dbF (fun o => ptsM w n R D ((o : Nat) : Int)) (fun o => wonM w n R ((o : Nat) : Int)) d (i + 1) from by show _ = (if _ then _ else _); rw [if_pos (by omega)])) ?_
          refine V_lv (congrArg (fun q : Int => ([(0, .ref (ga g (89))), (1, .int (iN (d))), (2, .int (iN (dbF (fun o => ptsM w n R D ((o : Nat) : Int)) (fun o => wonM w n R ((o : Nat) : Int)) d (i + 1)))), (3, .int (iN q))] : List (Nat × Value))) (show ((i : Nat) : Int) + 1 = (((i + 1) : Nat) : Int) from by omega)) ?_
          exact kk _ _ ⟨trivial, rfl, hx⟩
      · skip
        rintro o u2 _ ho ⟨-, rfl, hx⟩ kk2
        have hsb := sumF_b (f := fun o => asI (fun o => ptsM w n R D ((o : Nat) : Int)) (fun o => wonM w n R ((o : Nat) : Int)) o i) (c := 1) (fun l => asI_b) o
        refine V_iload X 5 rfl dX7_standing_37 ?_
        refine V_bipush X (by decide) dX7_standing_39 ?_
        refine V_icmp_ge X 115 ⟨by omega, by omega⟩ ⟨by decide, by decide⟩ dX7_standing_41 (by decide) (fun h => absurd h (by omega)) (fun _ => ?_)
        refine V_aload_n X 0 rfl dX7_standing_44 rfl ?_
        refine V_iload X 5 rfl dX7_standing_45 ?_
        refine V_callV_I X (na := 1) (ci := 7) (b0 := 89) (by decide) (rfl) (by decide) rfl (m_X7_pointsOf g l hl9 u2 hx.2.2 n (hMBw.frN hx) R D (by rw [hx.1 89 (by decide)]; exact hRrw) hR10 (by rw [hx.1 89 (by decide)]; exact hDdw) ((o : Nat) : Int) ⟨by omega, by omega⟩ hD3) gX7_standing_X7_pointsOf rfl rfl rfl (by decide +kernel) ⟨Nat.le_of_ble_eq_true rfl, Nat.le_of_ble_eq_true rfl⟩ rfl rfl (Nat.le_of_ble_eq_true rfl) ⟨Nat.le_of_ble_eq_true rfl, Nat.le_of_ble_eq_true rfl⟩ dX7_standing_47 (fun z10 u11 z10r hp12 => ?_)
        obtain ⟨hy1, hfN⟩ := hp12
        rw [ptsM_fr hx] at hy1
        have hx8 := hx.tr hfN
        have hy1b := ptsM_b (σ := w) (n := n) (R := R) (D := D) (d := ((o : Nat) : Int)) hR10
        refine V_aload_n X 0 rfl dX7_standing_50 rfl ?_
        refine V_iload_n X 3 rfl dX7_standing_51 rfl ?_
        refine V_callV_I X (na := 1) (ci := 7) (b0 := 89) (by decide) (rfl) (by decide) rfl (m_X7_pointsOf g l hl9 u11 hx8.2.2 n (hMBw.frN hx8) R D (by rw [hx8.1 89 (by decide)]; exact hRrw) hR10 (by rw [hx8.1 89 (by decide)]; exact hDdw) ((i : Nat) : Int) ⟨by omega, by omega⟩ hD3) gX7_standing_X7_pointsOf rfl rfl rfl (by decide +kernel) ⟨Nat.le_of_ble_eq_true rfl, Nat.le_of_ble_eq_true rfl⟩ rfl rfl (Nat.le_of_ble_eq_true rfl) ⟨Nat.le_of_ble_eq_true rfl, Nat.le_of_ble_eq_true rfl⟩ dX7_standing_52 (fun z13 u14 z13r hp15 => ?_)
        obtain ⟨hy2, hfN⟩ := hp15
        rw [ptsM_fr hx8] at hy2
        have hx9 := hx8.tr hfN
        have hy2b := ptsM_b (σ := w) (n := n) (R := R) (D := D) (d := ((i : Nat) : Int)) hR10
        refine V_isub X dX7_standing_55 ?_
        refine V_istore X [(6, .int (iN (z10 - z13))), (0, .ref (ga g (89))), (1, .int (iN (d))), (2, .int (iN (dbF (fun o => ptsM w n R D ((o : Nat) : Int)) (fun o => wonM w n R ((o : Nat) : Int)) d i))), (3, .int (iN (((i : Nat) : Int)))), (4, .int (iN (sumF (fun o => asI (fun o => ptsM w n R D ((o : Nat) : Int)) (fun o => wonM w n R ((o : Nat) : Int)) o i) o))), (5, .int (iN (((o : Nat) : Int))))] dX7_standing_56 (by decide) rfl ?_
        refine V_iload X 0 rfl dX7_standing_58 ?_
        refine V_if_ne X 77 ⟨by omega, by omega⟩ dX7_standing_60 (by decide) (fun q16 => ?_) (fun q16 => ?_)
        · skip
          refine V_iload X 5 rfl dX7_standing_77 ?_
          refine V_iload X 6 rfl dX7_standing_79 ?_
          refine V_iload_n X 4 rfl dX7_standing_81 rfl ?_
          refine V_icmp_eq X 105 ⟨by omega, by omega⟩ ⟨by omega, by omega⟩ dX7_standing_82 (by decide) (fun q17 => ?_) (fun q17 => ?_)
          · skip
            refine V_iconst X dX7_standing_105 ?_
            have hah : ¬ asP (fun o => ptsM w n R D ((o : Nat) : Int)) (fun o => wonM w n R ((o : Nat) : Int)) o i := asP_irr (by omega)
            refine V_iadd X dX7_standing_106 ?_
            refine V_istore X [(4, .int (iN ((sumF (fun o => asI (fun o => ptsM w n R D ((o : Nat) : Int)) (fun o => wonM w n R ((o : Nat) : Int)) o i) o) + 0))), (6, .int (iN (z10 - z13))), (0, .ref (ga g (89))), (1, .int (iN (d))), (2, .int (iN (dbF (fun o => ptsM w n R D ((o : Nat) : Int)) (fun o => wonM w n R ((o : Nat) : Int)) d i))), (3, .int (iN (((i : Nat) : Int)))), (5, .int (iN (((o : Nat) : Int))))] dX7_standing_107 (by decide) rfl ?_
            refine V_iinc X [(5, .int (iN (((o : Nat) : Int) + 1))), (4, .int (iN ((sumF (fun o => asI (fun o => ptsM w n R D ((o : Nat) : Int)) (fun o => wonM w n R ((o : Nat) : Int)) o i) o) + 0))), (6, .int (iN (z10 - z13))), (0, .ref (ga g (89))), (1, .int (iN (d))), (2, .int (iN (dbF (fun o => ptsM w n R D ((o : Nat) : Int)) (fun o => wonM w n R ((o : Nat) : Int)) d i))), (3, .int (iN (((i : Nat) : Int))))] 6 (((o : Nat) : Int) + 1) (rfl) rfl dX7_standing_109 (by decide) rfl ?_
            refine V_goto X 37 dX7_standing_112 (by decide) ?_
            refine V_sub (lv' := [(0, .ref (ga g (89))), (1, .int (iN (d))), (2, .int (iN (dbF (fun o => ptsM w n R D ((o : Nat) : Int)) (fun o => wonM w n R ((o : Nat) : Int)) d i))), (3, .int (iN (((i : Nat) : Int)))), (4, .int (iN ((sumF (fun o => asI (fun o => ptsM w n R D ((o : Nat) : Int)) (fun o => wonM w n R ((o : Nat) : Int)) o i) o) + 0))), (5, .int (iN (((o : Nat) : Int) + 1)))]) [3, 4, 5, 6, 1, 0] rfl ?_
            refine V_lv (congrArg (fun q : Int => ([(0, .ref (ga g (89))), (1, .int (iN (d))), (2, .int (iN (dbF (fun o => ptsM w n R D ((o : Nat) : Int)) (fun o => wonM w n R ((o : Nat) : Int)) d i))), (3, .int (iN (((i : Nat) : Int)))), (4, .int (iN q)), (5, .int (iN (((o : Nat) : Int) + 1)))] : List (Nat × Value))) (show (sumF (fun o => asI (fun o => ptsM w n R D ((o : Nat) : Int)) (fun o => wonM w n R ((o : Nat) : Int)) o i) o) + 0 = sumF (fun o => asI (fun o => ptsM w n R D ((o : Nat) : Int)) (fun o => wonM w n R ((o : Nat) : Int)) o i) (o + 1) from by show _ = sumF _ o + asI _ _ _ _; rw [asI_n hah])) ?_
            refine V_lv (congrArg (fun q : Int => ([(0, .ref (ga g (89))), (1, .int (iN (d))), (2, .int (iN (dbF (fun o => ptsM w n R D ((o : Nat) : Int)) (fun o => wonM w n R ((o : Nat) : Int)) d i))), (3, .int (iN (((i : Nat) : Int)))), (4, .int (iN (sumF (fun o => asI (fun o => ptsM w n R D ((o : Nat) : Int)) (fun o => wonM w n R ((o : Nat) : Int)) o i) (o + 1)))), (5, .int (iN q))] : List (Nat × Value))) (show ((o : Nat) : Int) + 1 = (((o + 1) : Nat) : Int) from by omega)) ?_
            exact kk2 _ _ ⟨trivial, rfl, hx9⟩
          · skip
            refine V_iload X 0 rfl dX7_standing_85 ?_
            refine V_if_gt X 101 ⟨by omega, by omega⟩ dX7_standing_87 (by decide) (fun q18 => ?_) (fun q18 => ?_)
            · skip
              refine V_iconst X dX7_standing_101 ?_
              refine V_goto X 106 dX7_standing_102 (by decide) ?_
              have hah : asP (fun o => ptsM w n R D ((o : Nat) : Int)) (fun o => wonM w n R ((o : Nat) : Int)) o i := by unfold asP; simp only [← hy1, ← hy2]; omega
              refine V_iadd X dX7_standing_106 ?_
              refine V_istore X [(4, .int (iN ((sumF (fun o => asI (fun o => ptsM w n R D ((o : Nat) : Int)) (fun o => wonM w n R ((o : Nat) : Int)) o i) o) + 1))), (6, .int (iN (z10 - z13))), (0, .ref (ga g (89))), (1, .int (iN (d))), (2, .int (iN (dbF (fun o => ptsM w n R D ((o : Nat) : Int)) (fun o => wonM w n R ((o : Nat) : Int)) d i))), (3, .int (iN (((i : Nat) : Int)))), (5, .int (iN (((o : Nat) : Int))))] dX7_standing_107 (by decide) rfl ?_
              refine V_iinc X [(5, .int (iN (((o : Nat) : Int) + 1))), (4, .int (iN ((sumF (fun o => asI (fun o => ptsM w n R D ((o : Nat) : Int)) (fun o => wonM w n R ((o : Nat) : Int)) o i) o) + 1))), (6, .int (iN (z10 - z13))), (0, .ref (ga g (89))), (1, .int (iN (d))), (2, .int (iN (dbF (fun o => ptsM w n R D ((o : Nat) : Int)) (fun o => wonM w n R ((o : Nat) : Int)) d i))), (3, .int (iN (((i : Nat) : Int))))] 6 (((o : Nat) : Int) + 1) (rfl) rfl dX7_standing_109 (by decide) rfl ?_
              refine V_goto X 37 dX7_standing_112 (by decide) ?_
              refine V_sub (lv' := [(0, .ref (ga g (89))), (1, .int (iN (d))), (2, .int (iN (dbF (fun o => ptsM w n R D ((o : Nat) : Int)) (fun o => wonM w n R ((o : Nat) : Int)) d i))), (3, .int (iN (((i : Nat) : Int)))), (4, .int (iN ((sumF (fun o => asI (fun o => ptsM w n R D ((o : Nat) : Int)) (fun o => wonM w n R ((o : Nat) : Int)) o i) o) + 1))), (5, .int (iN (((o : Nat) : Int) + 1)))]) [3, 4, 5, 6, 1, 0] rfl ?_
              refine V_lv (congrArg (fun q : Int => ([(0, .ref (ga g (89))), (1, .int (iN (d))), (2, .int (iN (dbF (fun o => ptsM w n R D ((o : Nat) : Int)) (fun o => wonM w n R ((o : Nat) : Int)) d i))), (3, .int (iN (((i : Nat) : Int)))), (4, .int (iN q)), (5, .int (iN (((o : Nat) : Int) + 1)))] : List (Nat × Value))) (show (sumF (fun o => asI (fun o => ptsM w n R D ((o : Nat) : Int)) (fun o => wonM w n R ((o : Nat) : Int)) o i) o) + 1 = sumF (fun o => asI (fun o => ptsM w n R D ((o : Nat) : Int)) (fun o => wonM w n R ((o : Nat) : Int)) o i) (o + 1) from by show _ = sumF _ o + asI _ _ _ _; rw [asI_y hah])) ?_
              refine V_lv (congrArg (fun q : Int => ([(0, .ref (ga g (89))), (1, .int (iN (d))), (2, .int (iN (dbF (fun o => ptsM w n R D ((o : Nat) : Int)) (fun o => wonM w n R ((o : Nat) : Int)) d i))), (3, .int (iN (((i : Nat) : Int)))), (4, .int (iN (sumF (fun o => asI (fun o => ptsM w n R D ((o : Nat) : Int)) (fun o => wonM w n R ((o : Nat) : Int)) o i) (o + 1)))), (5, .int (iN q))] : List (Nat × Value))) (show ((o : Nat) : Int) + 1 = (((o + 1) : Nat) : Int) from by omega)) ?_
              exact kk2 _ _ ⟨trivial, rfl, hx9⟩
            · skip
              refine V_iload X 0 rfl dX7_standing_90 ?_
              refine V_if_ne X 105 ⟨by omega, by omega⟩ dX7_standing_92 (by decide) (fun q19 => ?_) (fun q19 => ?_)
              · skip
                refine V_iconst X dX7_standing_105 ?_
                have hah : ¬ asP (fun o => ptsM w n R D ((o : Nat) : Int)) (fun o => wonM w n R ((o : Nat) : Int)) o i := by unfold asP; simp only [← hy1, ← hy2]; omega
                refine V_iadd X dX7_standing_106 ?_
                refine V_istore X [(4, .int (iN ((sumF (fun o => asI (fun o => ptsM w n R D ((o : Nat) : Int)) (fun o => wonM w n R ((o : Nat) : Int)) o i) o) + 0))), (6, .int (iN (z10 - z13))), (0, .ref (ga g (89))), (1, .int (iN (d))), (2, .int (iN (dbF (fun o => ptsM w n R D ((o : Nat) : Int)) (fun o => wonM w n R ((o : Nat) : Int)) d i))), (3, .int (iN (((i : Nat) : Int)))), (5, .int (iN (((o : Nat) : Int))))] dX7_standing_107 (by decide) rfl ?_
                refine V_iinc X [(5, .int (iN (((o : Nat) : Int) + 1))), (4, .int (iN ((sumF (fun o => asI (fun o => ptsM w n R D ((o : Nat) : Int)) (fun o => wonM w n R ((o : Nat) : Int)) o i) o) + 0))), (6, .int (iN (z10 - z13))), (0, .ref (ga g (89))), (1, .int (iN (d))), (2, .int (iN (dbF (fun o => ptsM w n R D ((o : Nat) : Int)) (fun o => wonM w n R ((o : Nat) : Int)) d i))), (3, .int (iN (((i : Nat) : Int))))] 6 (((o : Nat) : Int) + 1) (rfl) rfl dX7_standing_109 (by decide) rfl ?_
                refine V_goto X 37 dX7_standing_112 (by decide) ?_
                refine V_sub (lv' := [(0, .ref (ga g (89))), (1, .int (iN (d))), (2, .int (iN (dbF (fun o => ptsM w n R D ((o : Nat) : Int)) (fun o => wonM w n R ((o : Nat) : Int)) d i))), (3, .int (iN (((i : Nat) : Int)))), (4, .int (iN ((sumF (fun o => asI (fun o => ptsM w n R D ((o : Nat) : Int)) (fun o => wonM w n R ((o : Nat) : Int)) o i) o) + 0))), (5, .int (iN (((o : Nat) : Int) + 1)))]) [3, 4, 5, 6, 1, 0] rfl ?_
                refine V_lv (congrArg (fun q : Int => ([(0, .ref (ga g (89))), (1, .int (iN (d))), (2, .int (iN (dbF (fun o => ptsM w n R D ((o : Nat) : Int)) (fun o => wonM w n R ((o : Nat) : Int)) d i))), (3, .int (iN (((i : Nat) : Int)))), (4, .int (iN q)), (5, .int (iN (((o : Nat) : Int) + 1)))] : List (Nat × Value))) (show (sumF (fun o => asI (fun o => ptsM w n R D ((o : Nat) : Int)) (fun o => wonM w n R ((o : Nat) : Int)) o i) o) + 0 = sumF (fun o => asI (fun o => ptsM w n R D ((o : Nat) : Int)) (fun o => wonM w n R ((o : Nat) : Int)) o i) (o + 1) from by show _ = sumF _ o + asI _ _ _ _; rw [asI_n hah])) ?_
                refine V_lv (congrArg (fun q : Int => ([(0, .ref (ga g (89))), (1, .int (iN (d))), (2, .int (iN (dbF (fun o => ptsM w n R D ((o : Nat) : Int)) (fun o => wonM w n R ((o : Nat) : Int)) d i))), (3, .int (iN (((i : Nat) : Int)))), (4, .int (iN (sumF (fun o => asI (fun o => ptsM w n R D ((o : Nat) : Int)) (fun o => wonM w n R ((o : Nat) : Int)) o i) (o + 1)))), (5, .int (iN q))] : List (Nat × Value))) (show ((o : Nat) : Int) + 1 = (((o + 1) : Nat) : Int) from by omega)) ?_
                exact kk2 _ _ ⟨trivial, rfl, hx9⟩
              · skip
                refine V_iload X 6 rfl dX7_standing_95 ?_
                refine V_iload_n X 4 rfl dX7_standing_97 rfl ?_
                refine V_icmp_ge X 105 ⟨by omega, by omega⟩ ⟨by omega, by omega⟩ dX7_standing_98 (by decide) (fun q20 => ?_) (fun q20 => ?_)
                · skip
                  refine V_iconst X dX7_standing_105 ?_
                  have hah : ¬ asP (fun o => ptsM w n R D ((o : Nat) : Int)) (fun o => wonM w n R ((o : Nat) : Int)) o i := by unfold asP; simp only [← hy1, ← hy2]; omega
                  refine V_iadd X dX7_standing_106 ?_
                  refine V_istore X [(4, .int (iN ((sumF (fun o => asI (fun o => ptsM w n R D ((o : Nat) : Int)) (fun o => wonM w n R ((o : Nat) : Int)) o i) o) + 0))), (6, .int (iN (z10 - z13))), (0, .ref (ga g (89))), (1, .int (iN (d))), (2, .int (iN (dbF (fun o => ptsM w n R D ((o : Nat) : Int)) (fun o => wonM w n R ((o : Nat) : Int)) d i))), (3, .int (iN (((i : Nat) : Int)))), (5, .int (iN (((o : Nat) : Int))))] dX7_standing_107 (by decide) rfl ?_
                  refine V_iinc X [(5, .int (iN (((o : Nat) : Int) + 1))), (4, .int (iN ((sumF (fun o => asI (fun o => ptsM w n R D ((o : Nat) : Int)) (fun o => wonM w n R ((o : Nat) : Int)) o i) o) + 0))), (6, .int (iN (z10 - z13))), (0, .ref (ga g (89))), (1, .int (iN (d))), (2, .int (iN (dbF (fun o => ptsM w n R D ((o : Nat) : Int)) (fun o => wonM w n R ((o : Nat) : Int)) d i))), (3, .int (iN (((i : Nat) : Int))))] 6 (((o : Nat) : Int) + 1) (rfl) rfl dX7_standing_109 (by decide) rfl ?_
                  refine V_goto X 37 dX7_standing_112 (by decide) ?_
                  refine V_sub (lv' := [(0, .ref (ga g (89))), (1, .int (iN (d))), (2, .int (iN (dbF (fun o => ptsM w n R D ((o : Nat) : Int)) (fun o => wonM w n R ((o : Nat) : Int)) d i))), (3, .int (iN (((i : Nat) : Int)))), (4, .int (iN ((sumF (fun o => asI (fun o => ptsM w n R D ((o : Nat) : Int)) (fun o => wonM w n R ((o : Nat) : Int)) o i) o) + 0))), (5, .int (iN (((o : Nat) : Int) + 1)))]) [3, 4, 5, 6, 1, 0] rfl ?_
                  refine V_lv (congrArg (fun q : Int => ([(0, .ref (ga g (89))), (1, .int (iN (d))), (2, .int (iN (dbF (fun o => ptsM w n R D ((o : Nat) : Int)) (fun o => wonM w n R ((o : Nat) : Int)) d i))), (3, .int (iN (((i : Nat) : Int)))), (4, .int (iN q)), (5, .int (iN (((o : Nat) : Int) + 1)))] : List (Nat × Value))) (show (sumF (fun o => asI (fun o => ptsM w n R D ((o : Nat) : Int)) (fun o => wonM w n R ((o : Nat) : Int)) o i) o) + 0 = sumF (fun o => asI (fun o => ptsM w n R D ((o : Nat) : Int)) (fun o => wonM w n R ((o : Nat) : Int)) o i) (o + 1) from by show _ = sumF _ o + asI _ _ _ _; rw [asI_n hah])) ?_
                  refine V_lv (congrArg (fun q : Int => ([(0, .ref (ga g (89))), (1, .int (iN (d))), (2, .int (iN (dbF (fun o => ptsM w n R D ((o : Nat) : Int)) (fun o => wonM w n R ((o : Nat) : Int)) d i))), (3, .int (iN (((i : Nat) : Int)))), (4, .int (iN (sumF (fun o => asI (fun o => ptsM w n R D ((o : Nat) : Int)) (fun o => wonM w n R ((o : Nat) : Int)) o i) (o + 1)))), (5, .int (iN q))] : List (Nat × Value))) (show ((o : Nat) : Int) + 1 = (((o + 1) : Nat) : Int) from by omega)) ?_
                  exact kk2 _ _ ⟨trivial, rfl, hx9⟩
                · skip
                  refine V_iconst X dX7_standing_101 ?_
                  refine V_goto X 106 dX7_standing_102 (by decide) ?_
                  have hah : asP (fun o => ptsM w n R D ((o : Nat) : Int)) (fun o => wonM w n R ((o : Nat) : Int)) o i := by unfold asP; simp only [← hy1, ← hy2]; omega
                  refine V_iadd X dX7_standing_106 ?_
                  refine V_istore X [(4, .int (iN ((sumF (fun o => asI (fun o => ptsM w n R D ((o : Nat) : Int)) (fun o => wonM w n R ((o : Nat) : Int)) o i) o) + 1))), (6, .int (iN (z10 - z13))), (0, .ref (ga g (89))), (1, .int (iN (d))), (2, .int (iN (dbF (fun o => ptsM w n R D ((o : Nat) : Int)) (fun o => wonM w n R ((o : Nat) : Int)) d i))), (3, .int (iN (((i : Nat) : Int)))), (5, .int (iN (((o : Nat) : Int))))] dX7_standing_107 (by decide) rfl ?_
                  refine V_iinc X [(5, .int (iN (((o : Nat) : Int) + 1))), (4, .int (iN ((sumF (fun o => asI (fun o => ptsM w n R D ((o : Nat) : Int)) (fun o => wonM w n R ((o : Nat) : Int)) o i) o) + 1))), (6, .int (iN (z10 - z13))), (0, .ref (ga g (89))), (1, .int (iN (d))), (2, .int (iN (dbF (fun o => ptsM w n R D ((o : Nat) : Int)) (fun o => wonM w n R ((o : Nat) : Int)) d i))), (3, .int (iN (((i : Nat) : Int))))] 6 (((o : Nat) : Int) + 1) (rfl) rfl dX7_standing_109 (by decide) rfl ?_
                  refine V_goto X 37 dX7_standing_112 (by decide) ?_
                  refine V_sub (lv' := [(0, .ref (ga g (89))), (1, .int (iN (d))), (2, .int (iN (dbF (fun o => ptsM w n R D ((o : Nat) : Int)) (fun o => wonM w n R ((o : Nat) : Int)) d i))), (3, .int (iN (((i : Nat) : Int)))), (4, .int (iN ((sumF (fun o => asI (fun o => ptsM w n R D ((o : Nat) : Int)) (fun o => wonM w n R ((o : Nat) : Int)) o i) o) + 1))), (5, .int (iN (((o : Nat) : Int) + 1)))]) [3, 4, 5, 6, 1, 0] rfl ?_
                  refine V_lv (congrArg (fun q : Int => ([(0, .ref (ga g (89))), (1, .int (iN (d))), (2, .int (iN (dbF (fun o => ptsM w n R D ((o : Nat) : Int)) (fun o => wonM w n R ((o : Nat) : Int)) d i))), (3, .int (iN (((i : Nat) : Int)))), (4, .int (iN q)), (5, .int (iN (((o : Nat) : Int) + 1)))] : List (Nat × Value))) (show (sumF (fun o => asI (fun o => ptsM w n R D ((o : Nat) : Int)) (fun o => wonM w n R ((o : Nat) : Int)) o i) o) + 1 = sumF (fun o => asI (fun o => ptsM w n R D ((o : Nat) : Int)) (fun o => wonM w n R ((o : Nat) : Int)) o i) (o + 1) from by show _ = sumF _ o + asI _ _ _ _; rw [asI_y hah])) ?_
                  refine V_lv (congrArg (fun q : Int => ([(0, .ref (ga g (89))), (1, .int (iN (d))), (2, .int (iN (dbF (fun o => ptsM w n R D ((o : Nat) : Int)) (fun o => wonM w n R ((o : Nat) : Int)) d i))), (3, .int (iN (((i : Nat) : Int)))), (4, .int (iN (sumF (fun o => asI (fun o => ptsM w n R D ((o : Nat) : Int)) (fun o => wonM w n R ((o : Nat) : Int)) o i) (o + 1)))), (5, .int (iN q))] : List (Nat × Value))) (show ((o : Nat) : Int) + 1 = (((o + 1) : Nat) : Int) from by omega)) ?_
                  exact kk2 _ _ ⟨trivial, rfl, hx9⟩
        · skip
          refine V_aload_n X 1 rfl dX7_standing_63 rfl ?_
          refine V_iload X 6 rfl dX7_standing_64 ?_
          refine V_callV_I X (na := 1) (ci := 7) (b0 := 89) (by decide) (rfl) (by decide) rfl (m_X7_winsOf g l hl9 u14 hx9.2.2 n (hMBw.frN hx9) R (by rw [hx9.1 89 (by decide)]; exact hRrw) hR10 ((o : Nat) : Int) ⟨by omega, by omega⟩) gX7_standing_X7_winsOf rfl rfl rfl (by decide +kernel) ⟨Nat.le_of_ble_eq_true rfl, Nat.le_of_ble_eq_true rfl⟩ rfl rfl (Nat.le_of_ble_eq_true rfl) ⟨Nat.le_of_ble_eq_true rfl, Nat.le_of_ble_eq_true rfl⟩ dX7_standing_66 (fun z21 u22 z21r hp23 => ?_)
          obtain ⟨hy3, hu24⟩ := hp23
          have hu24 := hu24.symm
          subst hu24
          rw [wonM_fr hx9] at hy3
          have hy3b := wonM_b (σ := w) (n := n) (R := R) (d := ((o : Nat) : Int))
          refine V_aload_n X 1 rfl dX7_standing_69 rfl ?_
          refine V_iload_n X 4 rfl dX7_standing_70 rfl ?_
          refine V_callV_I X (na := 1) (ci := 7) (b0 := 89) (by decide) (rfl) (by decide) rfl (m_X7_winsOf g l hl9 u14 hx9.2.2 n (hMBw.frN hx9) R (by rw [hx9.1 89 (by decide)]; exact hRrw) hR10 ((i : Nat) : Int) ⟨by omega, by omega⟩) gX7_standing_X7_winsOf rfl rfl rfl (by decide +kernel) ⟨Nat.le_of_ble_eq_true rfl, Nat.le_of_ble_eq_true rfl⟩ rfl rfl (Nat.le_of_ble_eq_true rfl) ⟨Nat.le_of_ble_eq_true rfl, Nat.le_of_ble_eq_true rfl⟩ dX7_standing_71 (fun z25 u26 z25r hp27 => ?_)
          obtain ⟨hy4, hu28⟩ := hp27
          have hu28 := hu28.symm
          subst hu28
          rw [wonM_fr hx9] at hy4
          have hy4b := wonM_b (σ := w) (n := n) (R := R) (d := ((i : Nat) : Int))
          refine V_isub X dX7_standing_74 ?_
          refine V_istore X [(6, .int (iN (z21 - z25))), (0, .ref (ga g (89))), (1, .int (iN (d))), (2, .int (iN (dbF (fun o => ptsM w n R D ((o : Nat) : Int)) (fun o => wonM w n R ((o : Nat) : Int)) d i))), (3, .int (iN (((i : Nat) : Int)))), (4, .int (iN (sumF (fun o => asI (fun o => ptsM w n R D ((o : Nat) : Int)) (fun o => wonM w n R ((o : Nat) : Int)) o i) o))), (5, .int (iN (((o : Nat) : Int))))] dX7_standing_75 (by decide) rfl ?_
          refine V_iload X 5 rfl dX7_standing_77 ?_
          refine V_iload X 6 rfl dX7_standing_79 ?_
          refine V_iload_n X 4 rfl dX7_standing_81 rfl ?_
          refine V_icmp_eq X 105 ⟨by omega, by omega⟩ ⟨by omega, by omega⟩ dX7_standing_82 (by decide) (fun q29 => ?_) (fun q29 => ?_)
          · skip
            refine V_iconst X dX7_standing_105 ?_
            have hah : ¬ asP (fun o => ptsM w n R D ((o : Nat) : Int)) (fun o => wonM w n R ((o : Nat) : Int)) o i := asP_irr (by omega)
            refine V_iadd X dX7_standing_106 ?_
            refine V_istore X [(4, .int (iN ((sumF (fun o => asI (fun o => ptsM w n R D ((o : Nat) : Int)) (fun o => wonM w n R ((o : Nat) : Int)) o i) o) + 0))), (6, .int (iN (z21 - z25))), (0, .ref (ga g (89))), (1, .int (iN (d))), (2, .int (iN (dbF (fun o => ptsM w n R D ((o : Nat) : Int)) (fun o => wonM w n R ((o : Nat) : Int)) d i))), (3, .int (iN (((i : Nat) : Int)))), (5, .int (iN (((o : Nat) : Int))))] dX7_standing_107 (by decide) rfl ?_
            refine V_iinc X [(5, .int (iN (((o : Nat) : Int) + 1))), (4, .int (iN ((sumF (fun o => asI (fun o => ptsM w n R D ((o : Nat) : Int)) (fun o => wonM w n R ((o : Nat) : Int)) o i) o) + 0))), (6, .int (iN (z21 - z25))), (0, .ref (ga g (89))), (1, .int (iN (d))), (2, .int (iN (dbF (fun o => ptsM w n R D ((o : Nat) : Int)) (fun o => wonM w n R ((o : Nat) : Int)) d i))), (3, .int (iN (((i : Nat) : Int))))] 6 (((o : Nat) : Int) + 1) (rfl) rfl dX7_standing_109 (by decide) rfl ?_
            refine V_goto X 37 dX7_standing_112 (by decide) ?_
            refine V_sub (lv' := [(0, .ref (ga g (89))), (1, .int (iN (d))), (2, .int (iN (dbF (fun o => ptsM w n R D ((o : Nat) : Int)) (fun o => wonM w n R ((o : Nat) : Int)) d i))), (3, .int (iN (((i : Nat) : Int)))), (4, .int (iN ((sumF (fun o => asI (fun o => ptsM w n R D ((o : Nat) : Int)) (fun o => wonM w n R ((o : Nat) : Int)) o i) o) + 0))), (5, .int (iN (((o : Nat) : Int) + 1)))]) [3, 4, 5, 6, 1, 0] rfl ?_
            refine V_lv (congrArg (fun q : Int => ([(0, .ref (ga g (89))), (1, .int (iN (d))), (2, .int (iN (dbF (fun o => ptsM w n R D ((o : Nat) : Int)) (fun o => wonM w n R ((o : Nat) : Int)) d i))), (3, .int (iN (((i : Nat) : Int)))), (4, .int (iN q)), (5, .int (iN (((o : Nat) : Int) + 1)))] : List (Nat × Value))) (show (sumF (fun o => asI (fun o => ptsM w n R D ((o : Nat) : Int)) (fun o => wonM w n R ((o : Nat) : Int)) o i) o) + 0 = sumF (fun o => asI (fun o => ptsM w n R D ((o : Nat) : Int)) (fun o => wonM w n R ((o : Nat) : Int)) o i) (o + 1) from by show _ = sumF _ o + asI _ _ _ _; rw [asI_n hah])) ?_
            refine V_lv (congrArg (fun q : Int => ([(0, .ref (ga g (89))), (1, .int (iN (d))), (2, .int (iN (dbF (fun o => ptsM w n R D ((o : Nat) : Int)) (fun o => wonM w n R ((o : Nat) : Int)) d i))), (3, .int (iN (((i : Nat) : Int)))), (4, .int (iN (sumF (fun o => asI (fun o => ptsM w n R D ((o : Nat) : Int)) (fun o => wonM w n R ((o : Nat) : Int)) o i) (o + 1)))), (5, .int (iN q))] : List (Nat × Value))) (show ((o : Nat) : Int) + 1 = (((o + 1) : Nat) : Int) from by omega)) ?_
            exact kk2 _ _ ⟨trivial, rfl, hx9⟩
          · skip
            refine V_iload X 0 rfl dX7_standing_85 ?_
            refine V_if_gt X 101 ⟨by omega, by omega⟩ dX7_standing_87 (by decide) (fun q30 => ?_) (fun q30 => ?_)
            · skip
              refine V_iconst X dX7_standing_101 ?_
              refine V_goto X 106 dX7_standing_102 (by decide) ?_
              have hah : asP (fun o => ptsM w n R D ((o : Nat) : Int)) (fun o => wonM w n R ((o : Nat) : Int)) o i := by unfold asP; simp only [← hy1, ← hy2]; rw [← hy3, ← hy4]; omega
              refine V_iadd X dX7_standing_106 ?_
              refine V_istore X [(4, .int (iN ((sumF (fun o => asI (fun o => ptsM w n R D ((o : Nat) : Int)) (fun o => wonM w n R ((o : Nat) : Int)) o i) o) + 1))), (6, .int (iN (z21 - z25))), (0, .ref (ga g (89))), (1, .int (iN (d))), (2, .int (iN (dbF (fun o => ptsM w n R D ((o : Nat) : Int)) (fun o => wonM w n R ((o : Nat) : Int)) d i))), (3, .int (iN (((i : Nat) : Int)))), (5, .int (iN (((o : Nat) : Int))))] dX7_standing_107 (by decide) rfl ?_
              refine V_iinc X [(5, .int (iN (((o : Nat) : Int) + 1))), (4, .int (iN ((sumF (fun o => asI (fun o => ptsM w n R D ((o : Nat) : Int)) (fun o => wonM w n R ((o : Nat) : Int)) o i) o) + 1))), (6, .int (iN (z21 - z25))), (0, .ref (ga g (89))), (1, .int (iN (d))), (2, .int (iN (dbF (fun o => ptsM w n R D ((o : Nat) : Int)) (fun o => wonM w n R ((o : Nat) : Int)) d i))), (3, .int (iN (((i : Nat) : Int))))] 6 (((o : Nat) : Int) + 1) (rfl) rfl dX7_standing_109 (by decide) rfl ?_
              refine V_goto X 37 dX7_standing_112 (by decide) ?_
              refine V_sub (lv' := [(0, .ref (ga g (89))), (1, .int (iN (d))), (2, .int (iN (dbF (fun o => ptsM w n R D ((o : Nat) : Int)) (fun o => wonM w n R ((o : Nat) : Int)) d i))), (3, .int (iN (((i : Nat) : Int)))), (4, .int (iN ((sumF (fun o => asI (fun o => ptsM w n R D ((o : Nat) : Int)) (fun o => wonM w n R ((o : Nat) : Int)) o i) o) + 1))), (5, .int (iN (((o : Nat) : Int) + 1)))]) [3, 4, 5, 6, 1, 0] rfl ?_
              refine V_lv (congrArg (fun q : Int => ([(0, .ref (ga g (89))), (1, .int (iN (d))), (2, .int (iN (dbF (fun o => ptsM w n R D ((o : Nat) : Int)) (fun o => wonM w n R ((o : Nat) : Int)) d i))), (3, .int (iN (((i : Nat) : Int)))), (4, .int (iN q)), (5, .int (iN (((o : Nat) : Int) + 1)))] : List (Nat × Value))) (show (sumF (fun o => asI (fun o => ptsM w n R D ((o : Nat) : Int)) (fun o => wonM w n R ((o : Nat) : Int)) o i) o) + 1 = sumF (fun o => asI (fun o => ptsM w n R D ((o : Nat) : Int)) (fun o => wonM w n R ((o : Nat) : Int)) o i) (o + 1) from by show _ = sumF _ o + asI _ _ _ _; rw [asI_y hah])) ?_
              refine V_lv (congrArg (fun q : Int => ([(0, .ref (ga g (89))), (1, .int (iN (d))), (2, .int (iN (dbF (fun o => ptsM w n R D ((o : Nat) : Int)) (fun o => wonM w n R ((o : Nat) : Int)) d i))), (3, .int (iN (((i : Nat) : Int)))), (4, .int (iN (sumF (fun o => asI (fun o => ptsM w n R D ((o : Nat) : Int)) (fun o => wonM w n R ((o : Nat) : Int)) o i) (o + 1)))), (5, .int (iN q))] : List (Nat × Value))) (show ((o : Nat) : Int) + 1 = (((o + 1) : Nat) : Int) from by omega)) ?_
              exact kk2 _ _ ⟨trivial, rfl, hx9⟩
            · skip
              refine V_iload X 0 rfl dX7_standing_90 ?_
              refine V_if_ne X 105 ⟨by omega, by omega⟩ dX7_standing_92 (by decide) (fun q31 => ?_) (fun q31 => ?_)
              · skip
                refine V_iconst X dX7_standing_105 ?_
                have hah : ¬ asP (fun o => ptsM w n R D ((o : Nat) : Int)) (fun o => wonM w n R ((o : Nat) : Int)) o i := by unfold asP; simp only [← hy1, ← hy2]; rw [← hy3, ← hy4]; omega
                refine V_iadd X dX7_standing_106 ?_
                refine V_istore X [(4, .int (iN ((sumF (fun o => asI (fun o => ptsM w n R D ((o : Nat) : Int)) (fun o => wonM w n R ((o : Nat) : Int)) o i) o) + 0))), (6, .int (iN (z21 - z25))), (0, .ref (ga g (89))), (1, .int (iN (d))), (2, .int (iN (dbF (fun o => ptsM w n R D ((o : Nat) : Int)) (fun o => wonM w n R ((o : Nat) : Int)) d i))), (3, .int (iN (((i : Nat) : Int)))), (5, .int (iN (((o : Nat) : Int))))] dX7_standing_107 (by decide) rfl ?_
                refine V_iinc X [(5, .int (iN (((o : Nat) : Int) + 1))), (4, .int (iN ((sumF (fun o => asI (fun o => ptsM w n R D ((o : Nat) : Int)) (fun o => wonM w n R ((o : Nat) : Int)) o i) o) + 0))), (6, .int (iN (z21 - z25))), (0, .ref (ga g (89))), (1, .int (iN (d))), (2, .int (iN (dbF (fun o => ptsM w n R D ((o : Nat) : Int)) (fun o => wonM w n R ((o : Nat) : Int)) d i))), (3, .int (iN (((i : Nat) : Int))))] 6 (((o : Nat) : Int) + 1) (rfl) rfl dX7_standing_109 (by decide) rfl ?_
                refine V_goto X 37 dX7_standing_112 (by decide) ?_
                refine V_sub (lv' := [(0, .ref (ga g (89))), (1, .int (iN (d))), (2, .int (iN (dbF (fun o => ptsM w n R D ((o : Nat) : Int)) (fun o => wonM w n R ((o : Nat) : Int)) d i))), (3, .int (iN (((i : Nat) : Int)))), (4, .int (iN ((sumF (fun o => asI (fun o => ptsM w n R D ((o : Nat) : Int)) (fun o => wonM w n R ((o : Nat) : Int)) o i) o) + 0))), (5, .int (iN (((o : Nat) : Int) + 1)))]) [3, 4, 5, 6, 1, 0] rfl ?_
                refine V_lv (congrArg (fun q : Int => ([(0, .ref (ga g (89))), (1, .int (iN (d))), (2, .int (iN (dbF (fun o => ptsM w n R D ((o : Nat) : Int)) (fun o => wonM w n R ((o : Nat) : Int)) d i))), (3, .int (iN (((i : Nat) : Int)))), (4, .int (iN q)), (5, .int (iN (((o : Nat) : Int) + 1)))] : List (Nat × Value))) (show (sumF (fun o => asI (fun o => ptsM w n R D ((o : Nat) : Int)) (fun o => wonM w n R ((o : Nat) : Int)) o i) o) + 0 = sumF (fun o => asI (fun o => ptsM w n R D ((o : Nat) : Int)) (fun o => wonM w n R ((o : Nat) : Int)) o i) (o + 1) from by show _ = sumF _ o + asI _ _ _ _; rw [asI_n hah])) ?_
                refine V_lv (congrArg (fun q : Int => ([(0, .ref (ga g (89))), (1, .int (iN (d))), (2, .int (iN (dbF (fun o => ptsM w n R D ((o : Nat) : Int)) (fun o => wonM w n R ((o : Nat) : Int)) d i))), (3, .int (iN (((i : Nat) : Int)))), (4, .int (iN (sumF (fun o => asI (fun o => ptsM w n R D ((o : Nat) : Int)) (fun o => wonM w n R ((o : Nat) : Int)) o i) (o + 1)))), (5, .int (iN q))] : List (Nat × Value))) (show ((o : Nat) : Int) + 1 = (((o + 1) : Nat) : Int) from by omega)) ?_
                exact kk2 _ _ ⟨trivial, rfl, hx9⟩
              · skip
                refine V_iload X 6 rfl dX7_standing_95 ?_
                refine V_iload_n X 4 rfl dX7_standing_97 rfl ?_
                refine V_icmp_ge X 105 ⟨by omega, by omega⟩ ⟨by omega, by omega⟩ dX7_standing_98 (by decide) (fun q32 => ?_) (fun q32 => ?_)
                · skip
                  refine V_iconst X dX7_standing_105 ?_
                  have hah : ¬ asP (fun o => ptsM w n R D ((o : Nat) : Int)) (fun o => wonM w n R ((o : Nat) : Int)) o i := by unfold asP; simp only [← hy1, ← hy2]; rw [← hy3, ← hy4]; omega
                  refine V_iadd X dX7_standing_106 ?_
                  refine V_istore X [(4, .int (iN ((sumF (fun o => asI (fun o => ptsM w n R D ((o : Nat) : Int)) (fun o => wonM w n R ((o : Nat) : Int)) o i) o) + 0))), (6, .int (iN (z21 - z25))), (0, .ref (ga g (89))), (1, .int (iN (d))), (2, .int (iN (dbF (fun o => ptsM w n R D ((o : Nat) : Int)) (fun o => wonM w n R ((o : Nat) : Int)) d i))), (3, .int (iN (((i : Nat) : Int)))), (5, .int (iN (((o : Nat) : Int))))] dX7_standing_107 (by decide) rfl ?_
                  refine V_iinc X [(5, .int (iN (((o : Nat) : Int) + 1))), (4, .int (iN ((sumF (fun o => asI (fun o => ptsM w n R D ((o : Nat) : Int)) (fun o => wonM w n R ((o : Nat) : Int)) o i) o) + 0))), (6, .int (iN (z21 - z25))), (0, .ref (ga g (89))), (1, .int (iN (d))), (2, .int (iN (dbF (fun o => ptsM w n R D ((o : Nat) : Int)) (fun o => wonM w n R ((o : Nat) : Int)) d i))), (3, .int (iN (((i : Nat) : Int))))] 6 (((o : Nat) : Int) + 1) (rfl) rfl dX7_standing_109 (by decide) rfl ?_
                  refine V_goto X 37 dX7_standing_112 (by decide) ?_
                  refine V_sub (lv' := [(0, .ref (ga g (89))), (1, .int (iN (d))), (2, .int (iN (dbF (fun o => ptsM w n R D ((o : Nat) : Int)) (fun o => wonM w n R ((o : Nat) : Int)) d i))), (3, .int (iN (((i : Nat) : Int)))), (4, .int (iN ((sumF (fun o => asI (fun o => ptsM w n R D ((o : Nat) : Int)) (fun o => wonM w n R ((o : Nat) : Int)) o i) o) + 0))), (5, .int (iN (((o : Nat) : Int) + 1)))]) [3, 4, 5, 6, 1, 0] rfl ?_
                  refine V_lv (congrArg (fun q : Int => ([(0, .ref (ga g (89))), (1, .int (iN (d))), (2, .int (iN (dbF (fun o => ptsM w n R D ((o : Nat) : Int)) (fun o => wonM w n R ((o : Nat) : Int)) d i))), (3, .int (iN (((i : Nat) : Int)))), (4, .int (iN q)), (5, .int (iN (((o : Nat) : Int) + 1)))] : List (Nat × Value))) (show (sumF (fun o => asI (fun o => ptsM w n R D ((o : Nat) : Int)) (fun o => wonM w n R ((o : Nat) : Int)) o i) o) + 0 = sumF (fun o => asI (fun o => ptsM w n R D ((o : Nat) : Int)) (fun o => wonM w n R ((o : Nat) : Int)) o i) (o + 1) from by show _ = sumF _ o + asI _ _ _ _; rw [asI_n hah])) ?_
                  refine V_lv (congrArg (fun q : Int => ([(0, .ref (ga g (89))), (1, .int (iN (d))), (2, .int (iN (dbF (fun o => ptsM w n R D ((o : Nat) : Int)) (fun o => wonM w n R ((o : Nat) : Int)) d i))), (3, .int (iN (((i : Nat) : Int)))), (4, .int (iN (sumF (fun o => asI (fun o => ptsM w n R D ((o : Nat) : Int)) (fun o => wonM w n R ((o : Nat) : Int)) o i) (o + 1)))), (5, .int (iN q))] : List (Nat × Value))) (show ((o : Nat) : Int) + 1 = (((o + 1) : Nat) : Int) from by omega)) ?_
                  exact kk2 _ _ ⟨trivial, rfl, hx9⟩
                · skip
                  refine V_iconst X dX7_standing_101 ?_
                  refine V_goto X 106 dX7_standing_102 (by decide) ?_
                  have hah : asP (fun o => ptsM w n R D ((o : Nat) : Int)) (fun o => wonM w n R ((o : Nat) : Int)) o i := by unfold asP; simp only [← hy1, ← hy2]; rw [← hy3, ← hy4]; omega
                  refine V_iadd X dX7_standing_106 ?_
                  refine V_istore X [(4, .int (iN ((sumF (fun o => asI (fun o => ptsM w n R D ((o : Nat) : Int)) (fun o => wonM w n R ((o : Nat) : Int)) o i) o) + 1))), (6, .int (iN (z21 - z25))), (0, .ref (ga g (89))), (1, .int (iN (d))), (2, .int (iN (dbF (fun o => ptsM w n R D ((o : Nat) : Int)) (fun o => wonM w n R ((o : Nat) : Int)) d i))), (3, .int (iN (((i : Nat) : Int)))), (5, .int (iN (((o : Nat) : Int))))] dX7_standing_107 (by decide) rfl ?_
                  refine V_iinc X [(5, .int (iN (((o : Nat) : Int) + 1))), (4, .int (iN ((sumF (fun o => asI (fun o => ptsM w n R D ((o : Nat) : Int)) (fun o => wonM w n R ((o : Nat) : Int)) o i) o) + 1))), (6, .int (iN (z21 - z25))), (0, .ref (ga g (89))), (1, .int (iN (d))), (2, .int (iN (dbF (fun o => ptsM w n R D ((o : Nat) : Int)) (fun o => wonM w n R ((o : Nat) : Int)) d i))), (3, .int (iN (((i : Nat) : Int))))] 6 (((o : Nat) : Int) + 1) (rfl) rfl dX7_standing_109 (by decide) rfl ?_
                  refine V_goto X 37 dX7_standing_112 (by decide) ?_
                  refine V_sub (lv' := [(0, .ref (ga g (89))), (1, .int (iN (d))), (2, .int (iN (dbF (fun o => ptsM w n R D ((o : Nat) : Int)) (fun o => wonM w n R ((o : Nat) : Int)) d i))), (3, .int (iN (((i : Nat) : Int)))), (4, .int (iN ((sumF (fun o => asI (fun o => ptsM w n R D ((o : Nat) : Int)) (fun o => wonM w n R ((o : Nat) : Int)) o i) o) + 1))), (5, .int (iN (((o : Nat) : Int) + 1)))]) [3, 4, 5, 6, 1, 0] rfl ?_
                  refine V_lv (congrArg (fun q : Int => ([(0, .ref (ga g (89))), (1, .int (iN (d))), (2, .int (iN (dbF (fun o => ptsM w n R D ((o : Nat) : Int)) (fun o => wonM w n R ((o : Nat) : Int)) d i))), (3, .int (iN (((i : Nat) : Int)))), (4, .int (iN q)), (5, .int (iN (((o : Nat) : Int) + 1)))] : List (Nat × Value))) (show (sumF (fun o => asI (fun o => ptsM w n R D ((o : Nat) : Int)) (fun o => wonM w n R ((o : Nat) : Int)) o i) o) + 1 = sumF (fun o => asI (fun o => ptsM w n R D ((o : Nat) : Int)) (fun o => wonM w n R ((o : Nat) : Int)) o i) (o + 1) from by show _ = sumF _ o + asI _ _ _ _; rw [asI_y hah])) ?_
                  refine V_lv (congrArg (fun q : Int => ([(0, .ref (ga g (89))), (1, .int (iN (d))), (2, .int (iN (dbF (fun o => ptsM w n R D ((o : Nat) : Int)) (fun o => wonM w n R ((o : Nat) : Int)) d i))), (3, .int (iN (((i : Nat) : Int)))), (4, .int (iN (sumF (fun o => asI (fun o => ptsM w n R D ((o : Nat) : Int)) (fun o => wonM w n R ((o : Nat) : Int)) o i) (o + 1)))), (5, .int (iN q))] : List (Nat × Value))) (show ((o : Nat) : Int) + 1 = (((o + 1) : Nat) : Int) from by omega)) ?_
                  exact kk2 _ _ ⟨trivial, rfl, hx9⟩
  · skip
    rw [if_neg hA] at hz9
    subst hz9
    refine V_if_eq X 12 ⟨by decide, by decide⟩ dX7_standing_5 (by decide) (fun h => absurd h (by first | decide | omega)) (fun _ => ?_)
    refine V_iconst X dX7_standing_8 ?_
    refine V_goto X 13 dX7_standing_9 (by decide) ?_
    refine V_callV_I X (na := 1) (ci := 7) (b0 := 89) (by decide) (rfl) (by decide) rfl (m_X7_fails g l hl9 σ hR 1 ⟨by decide, by decide⟩) gX7_standing_X7_fails rfl rfl rfl (by decide +kernel) ⟨Nat.le_of_ble_eq_true rfl, Nat.le_of_ble_eq_true rfl⟩ rfl rfl (Nat.le_of_ble_eq_true rfl) ⟨Nat.le_of_ble_eq_true rfl, Nat.le_of_ble_eq_true rfl⟩ dX7_standing_13 (fun z33 u34 z33r hp35 => ?_)
    obtain ⟨hz9, hu36⟩ := hp35
    have hu36 := hu36.symm
    subst hu36
    rw [if_pos (by decide)] at hz9
    subst hz9
    refine V_if_eq X 21 ⟨by decide, by decide⟩ dX7_standing_16 (by decide) (fun h => absurd h (by first | decide | omega)) (fun _ => ?_)
    refine V_iconst X dX7_standing_19 ?_
    exact V_iret X hr rfl ⟨by decide, by decide⟩ (by exact Or.inr ⟨hA, rfl, (FrM.rf hR).sw 0 (by omega) ⟨by decide, by decide⟩⟩) dX7_standing_20 (by decide) (by decide)
set_option maxRecDepth 100000 in
set_option maxHeartbeats 4000000 in
theorem m_X7_checksum (g : Geo) (l : Launch) (hl9 : l.stackTraces = false) (σ : St) (hR : RG σ) (n : Nat) (hMB : MB σ n) : Met l yX7_checksum wsX7_checksum ({ frames := 1, cells := 0, slots := 0, locals := 23 }) (va_Pc [.ref (ga g (89))] (World g σ)) (QL g (fun z u => z = ckM σ n ∧ u = sw σ 89 0 0)) 0 0 (gA g) := by
  refine V_met hl9 (by decide) rfl (Nat.le_of_ble_eq_true rfl) ?_
  intro p9 e9 s9 m9 b9 t9 c9 X hr _
  have hn := hMB.1
  have hn30 := hMB.2.1
  have hL4 : 0 ≤ σ.1 89 11 ∧ σ.1 89 11 ≤ 30 := by omega
  refine V_lv (lv' := [(0, .ref (ga g (89)))]) rfl ?_
  refine V_aload_n X 0 rfl dX7_checksum_0 rfl ?_
  refine V_iconst X dX7_checksum_1 ?_
  refine V_put X (ci := 7) (89) (by decide) (rfl) (by decide) rfl (fun _ h => List.mem_cons_of_mem _ (List.mem_append_right _ h)) 0 (by decide) (List.mem_of_getElem? (i := 1) rfl) rfl tyX7 tyX7_ok nmX7 rfl rfl rfl rfl rfl (Nat.le_of_ble_eq_true rfl) dX7_checksum_2 ?_
  refine V_ldc2 X (List.mem_of_getElem? (i := 2) rfl) (z := 7) (by decide) dX7_checksum_5 ?_
  refine V_lstore_n X [(1, .long (lI (7))), (0, .ref (ga g (89)))] dX7_checksum_8 rfl (by decide) rfl ?_
  refine V_iconst X dX7_checksum_9 ?_
  refine V_istore_n X [(3, .int (iN (0))), (1, .long (lI (7))), (0, .ref (ga g (89)))] dX7_checksum_10 rfl (by decide) rfl ?_
  refine V_sub (lv' := [(0, .ref (ga g (89))), (1, .long (lI (7))), (3, .int (iN (0)))]) [2, 1, 0] rfl ?_
  refine V_up (N := n) (fun (i : Nat) (u : St) (lw : List (Nat × Value)) => sw σ (89) (0) (0) = u ∧ [(0, .ref (ga g (89))), (1, .long (lI (ckM σ i))), (3, .int (iN (((i : Nat) : Int))))] = lw ∧ (True)) (i0 := 0) (Nat.zero_le _) ⟨rfl, rfl, trivial⟩ ?_ ?_
  · skip
    rintro _ _ ⟨rfl, rfl, -⟩
    refine V_iload_n X 2 rfl dX7_checksum_11 rfl ?_
    refine V_aload_n X 0 rfl dX7_checksum_12 rfl ?_
    refine V_get X (ci := 7) (89) (by decide) (rfl) (by decide) rfl (fun _ h => List.mem_cons_of_mem _ (List.mem_append_right _ h)) 11 (by decide) (List.mem_of_getElem? (i := 3) rfl) rfl rfl dX7_checksum_13 ?_
    refine V_top (b := σ.1 89 11) (rd_k (by decide)) ?_
    refine V_icmp_ge X 70 ⟨by omega, by omega⟩ (hR _ _) dX7_checksum_16 (by decide) (fun _ => ?_) (fun h => absurd h (by omega))
    refine V_lload_n X 1 rfl dX7_checksum_70 rfl ?_
    exact V_lret X hr (by exact ⟨rfl, rfl⟩) dX7_checksum_71 (by decide) (by decide)
  · skip
    rintro i _ _ hiN ⟨rfl, rfl, -⟩ kk
    have hpb := hMB.prt hiN
    refine V_iload_n X 2 rfl dX7_checksum_11 rfl ?_
    refine V_aload_n X 0 rfl dX7_checksum_12 rfl ?_
    refine V_get X (ci := 7) (89) (by decide) (rfl) (by decide) rfl (fun _ h => List.mem_cons_of_mem _ (List.mem_append_right _ h)) 11 (by decide) (List.mem_of_getElem? (i := 3) rfl) rfl rfl dX7_checksum_13 ?_
    refine V_top (b := σ.1 89 11) (rd_k (by decide)) ?_
    refine V_icmp_ge X 70 ⟨by omega, by omega⟩ (hR _ _) dX7_checksum_16 (by decide) (fun h => absurd h (by omega)) (fun _ => ?_)
    refine V_ldc2 X (List.mem_of_getElem? (i := 4) rfl) (z := 31) (by decide) dX7_checksum_19 ?_
    refine V_lload_n X 1 rfl dX7_checksum_22 rfl ?_
    refine V_lmul X dX7_checksum_23 ?_
    refine V_aload_n X 0 rfl dX7_checksum_24 rfl ?_
    refine V_get X (ci := 7) (89) (by decide) (rfl) (by decide) rfl (fun _ h => List.mem_cons_of_mem _ (List.mem_append_right _ h)) 14 (by decide) (List.mem_of_getElem? (i := 5) rfl) rfl rfl dX7_checksum_25 ?_
    refine V_iload_n X 2 rfl dX7_checksum_28 rfl ?_
    refine V_iald X (N := 30) (99) (by decide) (rfl) (rfl) (by decide) (i) (rfl) (by omega) dX7_checksum_29 ?_
    refine V_top (b := σ.1 99 i) (rd_n (by decide)) ?_
    refine V_i2l X (hR _ _) dX7_checksum_30 ?_
    refine V_ladd X dX7_checksum_31 ?_
    refine V_aload_n X 0 rfl dX7_checksum_32 rfl ?_
    refine V_get X (ci := 7) (89) (by decide) (rfl) (by decide) rfl (fun _ h => List.mem_cons_of_mem _ (List.mem_append_right _ h)) 15 (by decide) (List.mem_of_getElem? (i := 6) rfl) rfl rfl dX7_checksum_33 ?_
    refine V_iload_n X 2 rfl dX7_checksum_36 rfl ?_
    refine V_iald X (N := 30) (100) (by decide) (rfl) (rfl) (by decide) (i) (rfl) (by omega) dX7_checksum_37 ?_
    refine V_top (b := σ.1 100 i) (rd_n (by decide)) ?_
    refine V_i2l X (hR _ _) dX7_checksum_38 ?_
    refine V_ladd X dX7_checksum_39 ?_
    refine V_aload_n X 0 rfl dX7_checksum_40 rfl ?_
    refine V_iload_n X 2 rfl dX7_checksum_41 rfl ?_
    refine V_callV_I X (na := 1) (ci := 7) (b0 := 89) (by decide) (rfl) (by decide) rfl (m_X7_partsOf g l hl9 (sw σ 89 0 0) (hR.sw _ _ ⟨by decide, by decide⟩) n hMB ((i : Nat) : Int) (by omega)) gX7_checksum_X7_partsOf rfl rfl rfl (by decide +kernel) ⟨Nat.le_of_ble_eq_true rfl, Nat.le_of_ble_eq_true rfl⟩ rfl rfl (Nat.le_of_ble_eq_true rfl) ⟨Nat.le_of_ble_eq_true rfl, Nat.le_of_ble_eq_true rfl⟩ dX7_checksum_42 (fun z1 u2 z1r hp3 => ?_)
    obtain ⟨hz, hu4⟩ := hp3
    have hu4 := hu4.symm
    subst hu4
    have hz2 : z1 = prtM σ i := hz
    subst hz2
    refine V_i2l X ⟨by omega, by omega⟩ dX7_checksum_45 ?_
    refine V_ladd X dX7_checksum_46 ?_
    refine V_aload_n X 0 rfl dX7_checksum_47 rfl ?_
    refine V_get X (ci := 7) (89) (by decide) (rfl) (by decide) rfl (fun _ h => List.mem_cons_of_mem _ (List.mem_append_right _ h)) 22 (by decide) (List.mem_of_getElem? (i := 7) rfl) rfl rfl dX7_checksum_48 ?_
    refine V_iload_n X 2 rfl dX7_checksum_51 rfl ?_
    refine V_zald X (N := 30) (107) (by decide) (rfl) (rfl) (by decide) (i) (rfl) (by omega) dX7_checksum_52 ?_
    refine V_top (b := σ.1 107 i) (rd_n (by decide)) ?_
    refine V_if_eq X 60 (hR _ _) dX7_checksum_53 (by decide) (fun q5 => ?_) (fun q5 => ?_)
    · skip
      refine V_iconst X dX7_checksum_60 ?_
      refine V_i2l X ⟨by decide, by decide⟩ dX7_checksum_61 ?_
      refine V_ladd X dX7_checksum_62 ?_
      refine V_lstore_n X [(1, .long (lI ((((((31) * (ckM σ i)) + (σ.1 99 i)) + (σ.1 100 i)) + (prtM σ i)) + (1)))), (0, .ref (ga g (89))), (3, .int (iN (((i : Nat) : Int))))] dX7_checksum_63 rfl (by decide) rfl ?_
      refine V_iinc X [(3, .int (iN (((i : Nat) : Int) + 1))), (1, .long (lI ((((((31) * (ckM σ i)) + (σ.1 99 i)) + (σ.1 100 i)) + (prtM σ i)) + (1)))), (0, .ref (ga g (89)))] 2 (((i : Nat) : Int) + 1) (rfl) rfl dX7_checksum_64 (by decide) rfl ?_
      refine V_goto X 11 dX7_checksum_67 (by decide) ?_
      refine V_sub (lv' := [(0, .ref (ga g (89))), (1, .long (lI ((((((31) * (ckM σ i)) + (σ.1 99 i)) + (σ.1 100 i)) + (prtM σ i)) + (1)))), (3, .int (iN (((i : Nat) : Int) + 1)))]) [2, 1, 0] rfl ?_
      refine V_lv (congrArg (fun q : Int => ([(0, .ref (ga g (89))), (1, .long (lI q)), (3, .int (iN (((i : Nat) : Int) + 1)))] : List (Nat × Value))) (show (((((31) * (ckM σ i)) + (σ.1 99 i)) + (σ.1 100 i)) + (prtM σ i)) + (1) = ckM σ (i + 1) from by show _ = ckM σ (i + 1); rw [ckM, if_pos (by omega)])) ?_
      refine V_lv (congrArg (fun q : Int => ([(0, .ref (ga g (89))), (1, .long (lI (ckM σ (i + 1)))), (3, .int (iN q))] : List (Nat × Value))) (show ((i : Nat) : Int) + 1 = (((i + 1) : Nat) : Int) from by omega)) ?_
      exact kk _ _ ⟨rfl, rfl, trivial⟩
    · skip
      refine V_iconst X dX7_checksum_56 ?_
      refine V_goto X 61 dX7_checksum_57 (by decide) ?_
      refine V_i2l X ⟨by decide, by decide⟩ dX7_checksum_61 ?_
      refine V_ladd X dX7_checksum_62 ?_
      refine V_lstore_n X [(1, .long (lI ((((((31) * (ckM σ i)) + (σ.1 99 i)) + (σ.1 100 i)) + (prtM σ i)) + (0)))), (0, .ref (ga g (89))), (3, .int (iN (((i : Nat) : Int))))] dX7_checksum_63 rfl (by decide) rfl ?_
      refine V_iinc X [(3, .int (iN (((i : Nat) : Int) + 1))), (1, .long (lI ((((((31) * (ckM σ i)) + (σ.1 99 i)) + (σ.1 100 i)) + (prtM σ i)) + (0)))), (0, .ref (ga g (89)))] 2 (((i : Nat) : Int) + 1) (rfl) rfl dX7_checksum_64 (by decide) rfl ?_
      refine V_goto X 11 dX7_checksum_67 (by decide) ?_
      refine V_sub (lv' := [(0, .ref (ga g (89))), (1, .long (lI ((((((31) * (ckM σ i)) + (σ.1 99 i)) + (σ.1 100 i)) + (prtM σ i)) + (0)))), (3, .int (iN (((i : Nat) : Int) + 1)))]) [2, 1, 0] rfl ?_
      refine V_lv (congrArg (fun q : Int => ([(0, .ref (ga g (89))), (1, .long (lI q)), (3, .int (iN (((i : Nat) : Int) + 1)))] : List (Nat × Value))) (show (((((31) * (ckM σ i)) + (σ.1 99 i)) + (σ.1 100 i)) + (prtM σ i)) + (0) = ckM σ (i + 1) from by show _ = ckM σ (i + 1); rw [ckM, if_neg (by omega)])) ?_
      refine V_lv (congrArg (fun q : Int => ([(0, .ref (ga g (89))), (1, .long (lI (ckM σ (i + 1)))), (3, .int (iN q))] : List (Nat × Value))) (show ((i : Nat) : Int) + 1 = (((i + 1) : Nat) : Int) from by omega)) ?_
      exact kk _ _ ⟨rfl, rfl, trivial⟩
set_option maxRecDepth 100000 in
set_option maxHeartbeats 4000000 in
theorem m_X7_shareStored (g : Geo) (l : Launch) (hl9 : l.stackTraces = false) (σ : St) (hR : RG σ) (n : Nat) (hMB : MB σ n) (hk1 : ∀ l, l < n → 1 ≤ σ.1 98 l) : Met l yX7_shareStored wsX7_shareStored ({ frames := 2, cells := 0, slots := 0, locals := 45 }) (va_Pc [.ref (ga g (89))] (World g σ)) (QF g (fun z u => (¬ n = 0 ∧ z = FP.fdiv (FP.i2f (iN (sumF (prtM σ) n))) (FP.i2f (iN (sumF (σ.1 98) n))) ∧ u = sw σ 89 0 0) ∨ (n = 0 ∧ u = sw σ 89 0 1))) 0 0 (gA g) := by
  refine V_met hl9 (by decide) rfl (Nat.le_of_ble_eq_true rfl) ?_
  intro p9 e9 s9 m9 b9 t9 c9 X hr _
  have hn := hMB.1
  have hn30 := hMB.2.1
  have hL4 : 0 ≤ σ.1 89 11 ∧ σ.1 89 11 ≤ 30 := by omega
  refine V_lv (lv' := [(0, .ref (ga g (89)))]) rfl ?_
  refine V_iconst X dX7_shareStored_0 ?_
  refine V_istore_n X [(1, .int (iN (0))), (0, .ref (ga g (89)))] dX7_shareStored_1 rfl (by decide) rfl ?_
  refine V_iconst X dX7_shareStored_2 ?_
  refine V_istore_n X [(2, .int (iN (0))), (1, .int (iN (0))), (0, .ref (ga g (89)))] dX7_shareStored_3 rfl (by decide) rfl ?_
  refine V_sub (lv' := [(0, .ref (ga g (89))), (1, .int (iN (0))), (2, .int (iN (0)))]) [2, 1, 0] rfl ?_
  refine V_up (N := n) (fun (i : Nat) (u : St) (lw : List (Nat × Value)) => σ = u ∧ [(0, .ref (ga g (89))), (1, .int (iN (sumF (σ.1 98) i))), (2, .int (iN (((i : Nat) : Int))))] = lw ∧ ((i : Int) ≤ sumF (σ.1 98) i ∧ sumF (σ.1 98) i ≤ 60 * i)) (i0 := 0) (Nat.zero_le _) ⟨rfl, rfl, ⟨Int.le_refl 0, Int.le_refl 0⟩⟩ ?_ ?_
  · skip
    rintro _ _ ⟨rfl, rfl, hb⟩
    refine V_iload_n X 2 rfl dX7_shareStored_4 rfl ?_
    refine V_aload_n X 0 rfl dX7_shareStored_5 rfl ?_
    refine V_get X (ci := 7) (89) (by decide) (rfl) (by decide) rfl (fun _ h => List.mem_cons_of_mem _ (List.mem_append_right _ h)) 11 (by decide) (List.mem_of_getElem? (i := 1) rfl) rfl rfl dX7_shareStored_6 ?_
    refine V_icmp_ge X 27 ⟨by omega, by omega⟩ (hR _ _) dX7_shareStored_9 (by decide) (fun _ => ?_) (fun h => absurd h (by omega))
    refine V_aload_n X 0 rfl dX7_shareStored_27 rfl ?_
    refine V_aload_n X 0 rfl dX7_shareStored_28 rfl ?_
    refine V_get X (ci := 7) (89) (by decide) (rfl) (by decide) rfl (fun _ h => List.mem_cons_of_mem _ (List.mem_append_right _ h)) 11 (by decide) (List.mem_of_getElem? (i := 1) rfl) rfl rfl dX7_shareStored_29 ?_
    refine V_if_ne X 39 (hR _ _) dX7_shareStored_32 (by decide) (fun q1 => ?_) (fun q1 => ?_)
    · skip
      refine V_iconst X dX7_shareStored_39 ?_
      refine V_callV_I X (na := 1) (ci := 7) (b0 := 89) (by decide) (rfl) (by decide) rfl (m_X7_fails g l hl9 σ hR 0 ⟨by decide, by decide⟩) gX7_shareStored_X7_fails rfl rfl rfl (by decide +kernel) ⟨Nat.le_of_ble_eq_true rfl, Nat.le_of_ble_eq_true rfl⟩ rfl rfl (Nat.le_of_ble_eq_true rfl) ⟨Nat.le_of_ble_eq_true rfl, Nat.le_of_ble_eq_true rfl⟩ dX7_shareStored_40 (fun z2 u3 z2r hp4 => ?_)
      obtain ⟨hz9, hu5⟩ := hp4
      have hu5 := hu5.symm
      subst hu5
      rw [if_neg (by decide)] at hz9
      subst hz9
      refine V_if_eq X 50 ⟨by decide, by decide⟩ dX7_shareStored_43 (by decide) (fun _ => ?_) (fun h => absurd h (by first | decide | omega))
      refine V_aload_n X 0 rfl dX7_shareStored_50 rfl ?_
      refine V_callV_I X (na := 0) (ci := 7) (b0 := 89) (by decide) (rfl) (by decide) rfl (m_X7_allParts g l hl9 (sw σ 89 0 0) (hR.sw _ _ ⟨by decide, by decide⟩) n hMB) gX7_shareStored_X7_allParts rfl rfl rfl (by decide +kernel) ⟨Nat.le_of_ble_eq_true rfl, Nat.le_of_ble_eq_true rfl⟩ rfl rfl (Nat.le_of_ble_eq_true rfl) ⟨Nat.le_of_ble_eq_true rfl, Nat.le_of_ble_eq_true rfl⟩ dX7_shareStored_51 (fun z6 u7 z6r hp8 => ?_)
      obtain ⟨hz, hu9⟩ := hp8
      have hu9 := hu9.symm
      subst hu9
      have hz2 : z6 = sumF (prtM σ) n := hz
      subst hz2
      refine V_i2f X dX7_shareStored_54 ?_
      refine V_iload_n X 1 rfl dX7_shareStored_55 rfl ?_
      refine V_i2f X dX7_shareStored_56 ?_
      refine V_fdiv X ((fp_fdivX (fp_i2f _) (by have e := fp_pos32 (sumF (σ.1 98) n).toNat (by omega) (by omega); rw [show (((sumF (σ.1 98) n).toNat : Nat) : Int) = sumF (σ.1 98) n by omega] at e; exact e)).2) dX7_shareStored_57 ?_
      exact V_fret X hr (by exact Or.inl ⟨by omega, rfl, rfl⟩) dX7_shareStored_58 (by decide) (by decide)
    · skip
      refine V_iconst X dX7_shareStored_35 ?_
      refine V_goto X 40 dX7_shareStored_36 (by decide) ?_
      refine V_callV_I X (na := 1) (ci := 7) (b0 := 89) (by decide) (rfl) (by decide) rfl (m_X7_fails g l hl9 σ hR 1 ⟨by decide, by decide⟩) gX7_shareStored_X7_fails rfl rfl rfl (by decide +kernel) ⟨Nat.le_of_ble_eq_true rfl, Nat.le_of_ble_eq_true rfl⟩ rfl rfl (Nat.le_of_ble_eq_true rfl) ⟨Nat.le_of_ble_eq_true rfl, Nat.le_of_ble_eq_true rfl⟩ dX7_shareStored_40 (fun z10 u11 z10r hp12 => ?_)
      obtain ⟨hz9, hu13⟩ := hp12
      have hu13 := hu13.symm
      subst hu13
      rw [if_pos (by decide)] at hz9
      subst hz9
      refine V_if_eq X 50 ⟨by decide, by decide⟩ dX7_shareStored_43 (by decide) (fun h => absurd h (by first | decide | omega)) (fun _ => ?_)
      refine V_fconst0 X dX7_shareStored_46 ?_
      refine V_goto X 58 dX7_shareStored_47 (by decide) ?_
      exact V_fret X hr (by exact Or.inr ⟨by omega, rfl⟩) dX7_shareStored_58 (by decide) (by decide)
  · skip
    rintro i _ _ hiN ⟨rfl, rfl, hb⟩ kk
    refine V_iload_n X 2 rfl dX7_shareStored_4 rfl ?_
    refine V_aload_n X 0 rfl dX7_shareStored_5 rfl ?_
    refine V_get X (ci := 7) (89) (by decide) (rfl) (by decide) rfl (fun _ h => List.mem_cons_of_mem _ (List.mem_append_right _ h)) 11 (by decide) (List.mem_of_getElem? (i := 1) rfl) rfl rfl dX7_shareStored_6 ?_
    refine V_icmp_ge X 27 ⟨by omega, by omega⟩ (hR _ _) dX7_shareStored_9 (by decide) (fun h => absurd h (by omega)) (fun _ => ?_)
    refine V_iload_n X 1 rfl dX7_shareStored_12 rfl ?_
    refine V_aload_n X 0 rfl dX7_shareStored_13 rfl ?_
    refine V_get X (ci := 7) (89) (by decide) (rfl) (by decide) rfl (fun _ h => List.mem_cons_of_mem _ (List.mem_append_right _ h)) 13 (by decide) (List.mem_of_getElem? (i := 2) rfl) rfl rfl dX7_shareStored_14 ?_
    refine V_iload_n X 2 rfl dX7_shareStored_17 rfl ?_
    refine V_iald X (N := 30) (98) (by decide) (rfl) (rfl) (by decide) (i) (rfl) (by omega) dX7_shareStored_18 ?_
    refine V_iadd X dX7_shareStored_19 ?_
    refine V_istore_n X [(1, .int (iN ((sumF (σ.1 98) i) + (σ.1 98 i)))), (0, .ref (ga g (89))), (2, .int (iN (((i : Nat) : Int))))] dX7_shareStored_20 rfl (by decide) rfl ?_
    refine V_iinc X [(2, .int (iN (((i : Nat) : Int) + 1))), (1, .int (iN ((sumF (σ.1 98) i) + (σ.1 98 i)))), (0, .ref (ga g (89)))] 2 (((i : Nat) : Int) + 1) (rfl) rfl dX7_shareStored_21 (by decide) rfl ?_
    refine V_goto X 4 dX7_shareStored_24 (by decide) ?_
    refine V_sub (lv' := [(0, .ref (ga g (89))), (1, .int (iN ((sumF (σ.1 98) i) + (σ.1 98 i)))), (2, .int (iN (((i : Nat) : Int) + 1)))]) [2, 1, 0] rfl ?_
    refine V_lv (congrArg (fun q : Int => ([(0, .ref (ga g (89))), (1, .int (iN q)), (2, .int (iN (((i : Nat) : Int) + 1)))] : List (Nat × Value))) (show (sumF (σ.1 98) i) + (σ.1 98 i) = sumF (σ.1 98) (i + 1) from rfl)) ?_
    refine V_lv (congrArg (fun q : Int => ([(0, .ref (ga g (89))), (1, .int (iN (sumF (σ.1 98) (i + 1)))), (2, .int (iN q))] : List (Nat × Value))) (show ((i : Nat) : Int) + 1 = (((i + 1) : Nat) : Int) from by omega)) ?_
    exact kk _ _ ⟨rfl, rfl, ⟨by show _ ≤ sumF _ i + σ.1 98 i; have := hk1 i hiN; omega, by show sumF _ i + σ.1 98 i ≤ _; have := (hMB.2.2 i hiN).1; omega⟩⟩
set_option maxRecDepth 100000 in
set_option maxHeartbeats 4000000 in
theorem m_X7_meanTime (g : Geo) (l : Launch) (hl9 : l.stackTraces = false) (σ : St) (hR : RG σ) (n : Nat) (hMB : MB σ n) : Met l yX7_meanTime wsX7_meanTime ({ frames := 1, cells := 0, slots := 0, locals := 21 }) (va_Pc [.ref (ga g (89))] (World g σ)) (QD g (fun z u => (¬ sumF (fun l => if σ.1 107 l = 0 then 1 else 0) n = 0 ∧ z = FP.ddiv (FP.i2d (iN (mtM σ n))) (FP.i2d (iN (sumF (fun l => if σ.1 107 l = 0 then 1 else 0) n))) ∧ u = sw σ 89 0 0) ∨ (sumF (fun l => if σ.1 107 l = 0 then 1 else 0) n = 0 ∧ u = sw σ 89 0 1))) 0 0 (gA g) := by
  refine V_met hl9 (by decide) rfl (Nat.le_of_ble_eq_true rfl) ?_
  intro p9 e9 s9 m9 b9 t9 c9 X hr _
  have hn := hMB.1
  have hn30 := hMB.2.1
  have hL4 : 0 ≤ σ.1 89 11 ∧ σ.1 89 11 ≤ 30 := by omega
  refine V_lv (lv' := [(0, .ref (ga g (89)))]) rfl ?_
  refine V_iconst X dX7_meanTime_0 ?_
  refine V_istore_n X [(1, .int (iN (0))), (0, .ref (ga g (89)))] dX7_meanTime_1 rfl (by decide) rfl ?_
  refine V_iconst X dX7_meanTime_2 ?_
  refine V_istore_n X [(2, .int (iN (0))), (1, .int (iN (0))), (0, .ref (ga g (89)))] dX7_meanTime_3 rfl (by decide) rfl ?_
  refine V_iconst X dX7_meanTime_4 ?_
  refine V_istore_n X [(3, .int (iN (0))), (2, .int (iN (0))), (1, .int (iN (0))), (0, .ref (ga g (89)))] dX7_meanTime_5 rfl (by decide) rfl ?_
  refine V_sub (lv' := [(0, .ref (ga g (89))), (1, .int (iN (0))), (2, .int (iN (0))), (3, .int (iN (0)))]) [3, 2, 1, 0] rfl ?_
  refine V_up (N := n) (fun (i : Nat) (u : St) (lw : List (Nat × Value)) => σ = u ∧ [(0, .ref (ga g (89))), (1, .int (iN (sumF (fun l => if σ.1 107 l = 0 then 1 else 0) i))), (2, .int (iN (mtM σ i))), (3, .int (iN (((i : Nat) : Int))))] = lw ∧ (0 ≤ mtM σ i ∧ mtM σ i ≤ 1100000 * i)) (i0 := 0) (Nat.zero_le _) ⟨rfl, rfl, ⟨Int.le_refl 0, Int.le_refl 0⟩⟩ ?_ ?_
  · skip
    rintro _ _ ⟨rfl, rfl, hb⟩
    have hsb := sumF_b (f := fun l => if σ.1 107 l = 0 then (1 : Int) else 0) (c := 1) (fun l => by split <;> omega) n
    refine V_iload_n X 3 rfl dX7_meanTime_6 rfl ?_
    refine V_aload_n X 0 rfl dX7_meanTime_7 rfl ?_
    refine V_get X (ci := 7) (89) (by decide) (rfl) (by decide) rfl (fun _ h => List.mem_cons_of_mem _ (List.mem_append_right _ h)) 11 (by decide) (List.mem_of_getElem? (i := 1) rfl) rfl rfl dX7_meanTime_8 ?_
    refine V_icmp_ge X 58 ⟨by omega, by omega⟩ (hR _ _) dX7_meanTime_11 (by decide) (fun _ => ?_) (fun h => absurd h (by omega))
    refine V_aload_n X 0 rfl dX7_meanTime_58 rfl ?_
    refine V_iload_n X 1 rfl dX7_meanTime_59 rfl ?_
    refine V_if_ne X 67 ⟨by omega, by omega⟩ dX7_meanTime_60 (by decide) (fun q1 => ?_) (fun q1 => ?_)
    · skip
      refine V_iconst X dX7_meanTime_67 ?_
      refine V_callV_I X (na := 1) (ci := 7) (b0 := 89) (by decide) (rfl) (by decide) rfl (m_X7_fails g l hl9 σ hR 0 ⟨by decide, by decide⟩) gX7_meanTime_X7_fails rfl rfl rfl (by decide +kernel) ⟨Nat.le_of_ble_eq_true rfl, Nat.le_of_ble_eq_true rfl⟩ rfl rfl (Nat.le_of_ble_eq_true rfl) ⟨Nat.le_of_ble_eq_true rfl, Nat.le_of_ble_eq_true rfl⟩ dX7_meanTime_68 (fun z2 u3 z2r hp4 => ?_)
      obtain ⟨hz9, hu5⟩ := hp4
      have hu5 := hu5.symm
      subst hu5
      rw [if_neg (by decide)] at hz9
      subst hz9
      refine V_if_eq X 78 ⟨by decide, by decide⟩ dX7_meanTime_71 (by decide) (fun _ => ?_) (fun h => absurd h (by first | decide | omega))
      refine V_iload_n X 2 rfl dX7_meanTime_78 rfl ?_
      refine V_i2d X dX7_meanTime_79 ?_
      refine V_iload_n X 1 rfl dX7_meanTime_80 rfl ?_
      refine V_i2d X dX7_meanTime_81 ?_
      refine V_ddiv X ((fp_ddivX (fp_i2d _) (by have e := fp_pos64 (sumF (fun l => if σ.1 107 l = 0 then 1 else 0) n).toNat (by omega) (by omega); rw [show (((sumF (fun l => if σ.1 107 l = 0 then 1 else 0) n).toNat : Nat) : Int) = sumF (fun l => if σ.1 107 l = 0 then 1 else 0) n by omega] at e; exact e)).2) dX7_meanTime_82 ?_
      exact V_dret X hr (by exact Or.inl ⟨by omega, rfl, rfl⟩) dX7_meanTime_83 (by decide) (by decide)
    · skip
      refine V_iconst X dX7_meanTime_63 ?_
      refine V_goto X 68 dX7_meanTime_64 (by decide) ?_
      refine V_callV_I X (na := 1) (ci := 7) (b0 := 89) (by decide) (rfl) (by decide) rfl (m_X7_fails g l hl9 σ hR 1 ⟨by decide, by decide⟩) gX7_meanTime_X7_fails rfl rfl rfl (by decide +kernel) ⟨Nat.le_of_ble_eq_true rfl, Nat.le_of_ble_eq_true rfl⟩ rfl rfl (Nat.le_of_ble_eq_true rfl) ⟨Nat.le_of_ble_eq_true rfl, Nat.le_of_ble_eq_true rfl⟩ dX7_meanTime_68 (fun z6 u7 z6r hp8 => ?_)
      obtain ⟨hz9, hu9⟩ := hp8
      have hu9 := hu9.symm
      subst hu9
      rw [if_pos (by decide)] at hz9
      subst hz9
      refine V_if_eq X 78 ⟨by decide, by decide⟩ dX7_meanTime_71 (by decide) (fun h => absurd h (by first | decide | omega)) (fun _ => ?_)
      refine V_dconst0 X dX7_meanTime_74 ?_
      refine V_goto X 83 dX7_meanTime_75 (by decide) ?_
      exact V_dret X hr (by exact Or.inr ⟨by omega, rfl⟩) dX7_meanTime_83 (by decide) (by decide)
  · skip
    rintro i _ _ hiN ⟨rfl, rfl, hb⟩ kk
    have hsb := sumF_b (f := fun l => if σ.1 107 l = 0 then (1 : Int) else 0) (c := 1) (fun l => by split <;> omega) i
    refine V_iload_n X 3 rfl dX7_meanTime_6 rfl ?_
    refine V_aload_n X 0 rfl dX7_meanTime_7 rfl ?_
    refine V_get X (ci := 7) (89) (by decide) (rfl) (by decide) rfl (fun _ h => List.mem_cons_of_mem _ (List.mem_append_right _ h)) 11 (by decide) (List.mem_of_getElem? (i := 1) rfl) rfl rfl dX7_meanTime_8 ?_
    refine V_icmp_ge X 58 ⟨by omega, by omega⟩ (hR _ _) dX7_meanTime_11 (by decide) (fun h => absurd h (by omega)) (fun _ => ?_)
    refine V_iload_n X 1 rfl dX7_meanTime_14 rfl ?_
    refine V_aload_n X 0 rfl dX7_meanTime_15 rfl ?_
    refine V_get X (ci := 7) (89) (by decide) (rfl) (by decide) rfl (fun _ h => List.mem_cons_of_mem _ (List.mem_append_right _ h)) 22 (by decide) (List.mem_of_getElem? (i := 2) rfl) rfl rfl dX7_meanTime_16 ?_
    refine V_iload_n X 3 rfl dX7_meanTime_19 rfl ?_
    refine V_zald X (N := 30) (107) (by decide) (rfl) (rfl) (by decide) (i) (rfl) (by omega) dX7_meanTime_20 ?_
    refine V_if_eq X 28 (hR _ _) dX7_meanTime_21 (by decide) (fun q10 => ?_) (fun q10 => ?_)
    · skip
      refine V_iconst X dX7_meanTime_28 ?_
      refine V_iadd X dX7_meanTime_29 ?_
      refine V_istore_n X [(1, .int (iN ((sumF (fun l => if σ.1 107 l = 0 then 1 else 0) i) + 1))), (0, .ref (ga g (89))), (2, .int (iN (mtM σ i))), (3, .int (iN (((i : Nat) : Int))))] dX7_meanTime_30 rfl (by decide) rfl ?_
      refine V_iload_n X 2 rfl dX7_meanTime_31 rfl ?_
      refine V_aload_n X 1 rfl dX7_meanTime_32 rfl ?_
      refine V_get X (ci := 7) (89) (by decide) (rfl) (by decide) rfl (fun _ h => List.mem_cons_of_mem _ (List.mem_append_right _ h)) 22 (by decide) (List.mem_of_getElem? (i := 2) rfl) rfl rfl dX7_meanTime_33 ?_
      refine V_iload_n X 3 rfl dX7_meanTime_36 rfl ?_
      refine V_zald X (N := 30) (107) (by decide) (rfl) (rfl) (by decide) (i) (rfl) (by omega) dX7_meanTime_37 ?_
      refine V_if_eq X 45 (hR _ _) dX7_meanTime_38 (by decide) (fun q11 => ?_) (fun q11 => ?_)
      · skip
        refine V_aload_n X 1 rfl dX7_meanTime_45 rfl ?_
        refine V_iload_n X 3 rfl dX7_meanTime_46 rfl ?_
        have hcb := hMB.cnt hiN
        refine V_callV_I X (na := 1) (ci := 7) (b0 := 89) (by decide) (rfl) (by decide) rfl (m_X7_countOf g l hl9 σ hR ((i : Nat) : Int) (by omega) (by show -2147483648 ≤ cntM σ i; omega) (by show cntM σ i ≤ _; omega)) gX7_meanTime_X7_countOf rfl rfl rfl (by decide +kernel) ⟨Nat.le_of_ble_eq_true rfl, Nat.le_of_ble_eq_true rfl⟩ rfl rfl (Nat.le_of_ble_eq_true rfl) ⟨Nat.le_of_ble_eq_true rfl, Nat.le_of_ble_eq_true rfl⟩ dX7_meanTime_47 (fun z12 u13 z12r hp14 => ?_)
        obtain ⟨hz, hu15⟩ := hp14
        have hu15 := hu15.symm
        subst hu15
        have hz2 : z12 = cntM σ i := hz
        subst hz2
        refine V_iadd X dX7_meanTime_50 ?_
        refine V_istore_n X [(2, .int (iN ((mtM σ i) + (cntM σ i)))), (1, .int (iN ((sumF (fun l => if σ.1 107 l = 0 then 1 else 0) i) + 1))), (0, .ref (ga g (89))), (3, .int (iN (((i : Nat) : Int))))] dX7_meanTime_51 rfl (by decide) rfl ?_
        refine V_iinc X [(3, .int (iN (((i : Nat) : Int) + 1))), (2, .int (iN ((mtM σ i) + (cntM σ i)))), (1, .int (iN ((sumF (fun l => if σ.1 107 l = 0 then 1 else 0) i) + 1))), (0, .ref (ga g (89)))] 3 (((i : Nat) : Int) + 1) (rfl) rfl dX7_meanTime_52 (by decide) rfl ?_
        refine V_goto X 6 dX7_meanTime_55 (by decide) ?_
        refine V_sub (lv' := [(0, .ref (ga g (89))), (1, .int (iN ((sumF (fun l => if σ.1 107 l = 0 then 1 else 0) i) + 1))), (2, .int (iN ((mtM σ i) + (cntM σ i)))), (3, .int (iN (((i : Nat) : Int) + 1)))]) [3, 2, 1, 0] rfl ?_
        refine V_lv (congrArg (fun q : Int => ([(0, .ref (ga g (89))), (1, .int (iN q)), (2, .int (iN ((mtM σ i) + (cntM σ i)))), (3, .int (iN (((i : Nat) : Int) + 1)))] : List (Nat × Value))) (show (sumF (fun l => if σ.1 107 l = 0 then 1 else 0) i) + 1 = sumF (fun l => if σ.1 107 l = 0 then 1 else 0) (i + 1) from by show _ = sumF _ i + (if _ then 1 else 0); rw [if_pos (by omega)])) ?_
        refine V_lv (congrArg (fun q : Int => ([(0, .ref (ga g (89))), (1, .int (iN (sumF (fun l => if σ.1 107 l = 0 then 1 else 0) (i + 1)))), (2, .int (iN q)), (3, .int (iN (((i : Nat) : Int) + 1)))] : List (Nat × Value))) (show (mtM σ i) + (cntM σ i) = mtM σ (i + 1) from by show _ = sumF _ i + (if _ then _ else 0); rw [if_pos (by omega)]; rfl)) ?_
        refine V_lv (congrArg (fun q : Int => ([(0, .ref (ga g (89))), (1, .int (iN (sumF (fun l => if σ.1 107 l = 0 then 1 else 0) (i + 1)))), (2, .int (iN (mtM σ (i + 1)))), (3, .int (iN q))] : List (Nat × Value))) (show ((i : Nat) : Int) + 1 = (((i + 1) : Nat) : Int) from by omega)) ?_
        exact kk _ _ ⟨rfl, rfl, mtM_b (hMB.cnt hiN) hb⟩
      · skip
        refine V_iconst X dX7_meanTime_41 ?_
        refine V_goto X 50 dX7_meanTime_42 (by decide) ?_
        refine V_iadd X dX7_meanTime_50 ?_
        refine V_istore_n X [(2, .int (iN ((mtM σ i) + 0))), (1, .int (iN ((sumF (fun l => if σ.1 107 l = 0 then 1 else 0) i) + 1))), (0, .ref (ga g (89))), (3, .int (iN (((i : Nat) : Int))))] dX7_meanTime_51 rfl (by decide) rfl ?_
        refine V_iinc X [(3, .int (iN (((i : Nat) : Int) + 1))), (2, .int (iN ((mtM σ i) + 0))), (1, .int (iN ((sumF (fun l => if σ.1 107 l = 0 then 1 else 0) i) + 1))), (0, .ref (ga g (89)))] 3 (((i : Nat) : Int) + 1) (rfl) rfl dX7_meanTime_52 (by decide) rfl ?_
        refine V_goto X 6 dX7_meanTime_55 (by decide) ?_
        refine V_sub (lv' := [(0, .ref (ga g (89))), (1, .int (iN ((sumF (fun l => if σ.1 107 l = 0 then 1 else 0) i) + 1))), (2, .int (iN ((mtM σ i) + 0))), (3, .int (iN (((i : Nat) : Int) + 1)))]) [3, 2, 1, 0] rfl ?_
        refine V_lv (congrArg (fun q : Int => ([(0, .ref (ga g (89))), (1, .int (iN q)), (2, .int (iN ((mtM σ i) + 0))), (3, .int (iN (((i : Nat) : Int) + 1)))] : List (Nat × Value))) (show (sumF (fun l => if σ.1 107 l = 0 then 1 else 0) i) + 1 = sumF (fun l => if σ.1 107 l = 0 then 1 else 0) (i + 1) from by show _ = sumF _ i + (if _ then 1 else 0); rw [if_pos (by omega)])) ?_
        refine V_lv (congrArg (fun q : Int => ([(0, .ref (ga g (89))), (1, .int (iN (sumF (fun l => if σ.1 107 l = 0 then 1 else 0) (i + 1)))), (2, .int (iN q)), (3, .int (iN (((i : Nat) : Int) + 1)))] : List (Nat × Value))) (show (mtM σ i) + 0 = mtM σ (i + 1) from by show _ = sumF _ i + (if _ then _ else 0); rw [if_neg (by omega)]; rfl)) ?_
        refine V_lv (congrArg (fun q : Int => ([(0, .ref (ga g (89))), (1, .int (iN (sumF (fun l => if σ.1 107 l = 0 then 1 else 0) (i + 1)))), (2, .int (iN (mtM σ (i + 1)))), (3, .int (iN q))] : List (Nat × Value))) (show ((i : Nat) : Int) + 1 = (((i + 1) : Nat) : Int) from by omega)) ?_
        exact kk _ _ ⟨rfl, rfl, mtM_b (hMB.cnt hiN) hb⟩
    · skip
      refine V_iconst X dX7_meanTime_24 ?_
      refine V_goto X 29 dX7_meanTime_25 (by decide) ?_
      refine V_iadd X dX7_meanTime_29 ?_
      refine V_istore_n X [(1, .int (iN ((sumF (fun l => if σ.1 107 l = 0 then 1 else 0) i) + 0))), (0, .ref (ga g (89))), (2, .int (iN (mtM σ i))), (3, .int (iN (((i : Nat) : Int))))] dX7_meanTime_30 rfl (by decide) rfl ?_
      refine V_iload_n X 2 rfl dX7_meanTime_31 rfl ?_
      refine V_aload_n X 1 rfl dX7_meanTime_32 rfl ?_
      refine V_get X (ci := 7) (89) (by decide) (rfl) (by decide) rfl (fun _ h => List.mem_cons_of_mem _ (List.mem_append_right _ h)) 22 (by decide) (List.mem_of_getElem? (i := 2) rfl) rfl rfl dX7_meanTime_33 ?_
      refine V_iload_n X 3 rfl dX7_meanTime_36 rfl ?_
      refine V_zald X (N := 30) (107) (by decide) (rfl) (rfl) (by decide) (i) (rfl) (by omega) dX7_meanTime_37 ?_
      refine V_if_eq X 45 (hR _ _) dX7_meanTime_38 (by decide) (fun q16 => ?_) (fun q16 => ?_)
      · skip
        refine V_aload_n X 1 rfl dX7_meanTime_45 rfl ?_
        refine V_iload_n X 3 rfl dX7_meanTime_46 rfl ?_
        have hcb := hMB.cnt hiN
        refine V_callV_I X (na := 1) (ci := 7) (b0 := 89) (by decide) (rfl) (by decide) rfl (m_X7_countOf g l hl9 σ hR ((i : Nat) : Int) (by omega) (by show -2147483648 ≤ cntM σ i; omega) (by show cntM σ i ≤ _; omega)) gX7_meanTime_X7_countOf rfl rfl rfl (by decide +kernel) ⟨Nat.le_of_ble_eq_true rfl, Nat.le_of_ble_eq_true rfl⟩ rfl rfl (Nat.le_of_ble_eq_true rfl) ⟨Nat.le_of_ble_eq_true rfl, Nat.le_of_ble_eq_true rfl⟩ dX7_meanTime_47 (fun z17 u18 z17r hp19 => ?_)
        obtain ⟨hz, hu20⟩ := hp19
        have hu20 := hu20.symm
        subst hu20
        have hz2 : z17 = cntM σ i := hz
        subst hz2
        refine V_iadd X dX7_meanTime_50 ?_
        refine V_istore_n X [(2, .int (iN ((mtM σ i) + (cntM σ i)))), (1, .int (iN ((sumF (fun l => if σ.1 107 l = 0 then 1 else 0) i) + 0))), (0, .ref (ga g (89))), (3, .int (iN (((i : Nat) : Int))))] dX7_meanTime_51 rfl (by decide) rfl ?_
        refine V_iinc X [(3, .int (iN (((i : Nat) : Int) + 1))), (2, .int (iN ((mtM σ i) + (cntM σ i)))), (1, .int (iN ((sumF (fun l => if σ.1 107 l = 0 then 1 else 0) i) + 0))), (0, .ref (ga g (89)))] 3 (((i : Nat) : Int) + 1) (rfl) rfl dX7_meanTime_52 (by decide) rfl ?_
        refine V_goto X 6 dX7_meanTime_55 (by decide) ?_
        refine V_sub (lv' := [(0, .ref (ga g (89))), (1, .int (iN ((sumF (fun l => if σ.1 107 l = 0 then 1 else 0) i) + 0))), (2, .int (iN ((mtM σ i) + (cntM σ i)))), (3, .int (iN (((i : Nat) : Int) + 1)))]) [3, 2, 1, 0] rfl ?_
        refine V_lv (congrArg (fun q : Int => ([(0, .ref (ga g (89))), (1, .int (iN q)), (2, .int (iN ((mtM σ i) + (cntM σ i)))), (3, .int (iN (((i : Nat) : Int) + 1)))] : List (Nat × Value))) (show (sumF (fun l => if σ.1 107 l = 0 then 1 else 0) i) + 0 = sumF (fun l => if σ.1 107 l = 0 then 1 else 0) (i + 1) from by show _ = sumF _ i + (if _ then 1 else 0); rw [if_neg (by omega)])) ?_
        refine V_lv (congrArg (fun q : Int => ([(0, .ref (ga g (89))), (1, .int (iN (sumF (fun l => if σ.1 107 l = 0 then 1 else 0) (i + 1)))), (2, .int (iN q)), (3, .int (iN (((i : Nat) : Int) + 1)))] : List (Nat × Value))) (show (mtM σ i) + (cntM σ i) = mtM σ (i + 1) from by show _ = sumF _ i + (if _ then _ else 0); rw [if_pos (by omega)]; rfl)) ?_
        refine V_lv (congrArg (fun q : Int => ([(0, .ref (ga g (89))), (1, .int (iN (sumF (fun l => if σ.1 107 l = 0 then 1 else 0) (i + 1)))), (2, .int (iN (mtM σ (i + 1)))), (3, .int (iN q))] : List (Nat × Value))) (show ((i : Nat) : Int) + 1 = (((i + 1) : Nat) : Int) from by omega)) ?_
        exact kk _ _ ⟨rfl, rfl, mtM_b (hMB.cnt hiN) hb⟩
      · skip
        refine V_iconst X dX7_meanTime_41 ?_
        refine V_goto X 50 dX7_meanTime_42 (by decide) ?_
        refine V_iadd X dX7_meanTime_50 ?_
        refine V_istore_n X [(2, .int (iN ((mtM σ i) + 0))), (1, .int (iN ((sumF (fun l => if σ.1 107 l = 0 then 1 else 0) i) + 0))), (0, .ref (ga g (89))), (3, .int (iN (((i : Nat) : Int))))] dX7_meanTime_51 rfl (by decide) rfl ?_
        refine V_iinc X [(3, .int (iN (((i : Nat) : Int) + 1))), (2, .int (iN ((mtM σ i) + 0))), (1, .int (iN ((sumF (fun l => if σ.1 107 l = 0 then 1 else 0) i) + 0))), (0, .ref (ga g (89)))] 3 (((i : Nat) : Int) + 1) (rfl) rfl dX7_meanTime_52 (by decide) rfl ?_
        refine V_goto X 6 dX7_meanTime_55 (by decide) ?_
        refine V_sub (lv' := [(0, .ref (ga g (89))), (1, .int (iN ((sumF (fun l => if σ.1 107 l = 0 then 1 else 0) i) + 0))), (2, .int (iN ((mtM σ i) + 0))), (3, .int (iN (((i : Nat) : Int) + 1)))]) [3, 2, 1, 0] rfl ?_
        refine V_lv (congrArg (fun q : Int => ([(0, .ref (ga g (89))), (1, .int (iN q)), (2, .int (iN ((mtM σ i) + 0))), (3, .int (iN (((i : Nat) : Int) + 1)))] : List (Nat × Value))) (show (sumF (fun l => if σ.1 107 l = 0 then 1 else 0) i) + 0 = sumF (fun l => if σ.1 107 l = 0 then 1 else 0) (i + 1) from by show _ = sumF _ i + (if _ then 1 else 0); rw [if_neg (by omega)])) ?_
        refine V_lv (congrArg (fun q : Int => ([(0, .ref (ga g (89))), (1, .int (iN (sumF (fun l => if σ.1 107 l = 0 then 1 else 0) (i + 1)))), (2, .int (iN q)), (3, .int (iN (((i : Nat) : Int) + 1)))] : List (Nat × Value))) (show (mtM σ i) + 0 = mtM σ (i + 1) from by show _ = sumF _ i + (if _ then _ else 0); rw [if_neg (by omega)]; rfl)) ?_
        refine V_lv (congrArg (fun q : Int => ([(0, .ref (ga g (89))), (1, .int (iN (sumF (fun l => if σ.1 107 l = 0 then 1 else 0) (i + 1)))), (2, .int (iN (mtM σ (i + 1)))), (3, .int (iN q))] : List (Nat × Value))) (show ((i : Nat) : Int) + 1 = (((i + 1) : Nat) : Int) from by omega)) ?_
        exact kk _ _ ⟨rfl, rfl, mtM_b (hMB.cnt hiN) hb⟩
set_option maxRecDepth 100000 in
set_option maxHeartbeats 4000000 in
theorem m_X7_isSound (g : Geo) (l : Launch) (hl9 : l.stackTraces = false) (σ : St) (hR : RG σ) : Met l yX7_isSound wsX7_isSound ({ frames := 0, cells := 0, slots := 0, locals := 0 }) (va_Pc [.ref (ga g (89))] (World g σ)) (QI g (fun z u => z = 1 ∧ u = sw σ 89 0 0)) 0 0 (gA g) := by
  refine V_met hl9 (by decide) rfl (Nat.le_of_ble_eq_true rfl) ?_
  intro p9 e9 s9 m9 b9 t9 c9 X hr _
  refine V_lv (lv' := [(0, .ref (ga g (89)))]) rfl ?_
  refine V_aload_n X 0 rfl dX7_isSound_0 rfl ?_
  refine V_iconst X dX7_isSound_1 ?_
  refine V_put X (ci := 7) (89) (by decide) (rfl) (by decide) rfl (fun _ h => List.mem_cons_of_mem _ (List.mem_append_right _ h)) 0 (by decide) (List.mem_of_getElem? (i := 1) rfl) rfl tyX7 tyX7_ok nmX7 rfl rfl rfl rfl rfl (Nat.le_of_ble_eq_true rfl) dX7_isSound_2 ?_
  refine V_iconst X dX7_isSound_5 ?_
  exact V_iret X hr (iN_bool (Or.inr rfl)).1 ⟨by decide, by decide⟩ (by exact ⟨rfl, rfl⟩) dX7_isSound_6 (by decide) (by decide)
