/-! ===== the law, case by case ===== -/
set_option maxRecDepth 100000 in
set_option maxHeartbeats 4000000 in
theorem lc_10 (g : Geo) {p : Program} (l : Launch) {e : Env} {s : State} {m : MethodId} {args : Array Value} {below : List Frame} {meth : Method} {c : Code} {k0 n0 : Nat} {Q : State → Prop} {b L : Nat} {xs : Nat → Int32} (hl9 : l.stackTraces = false) (X : Cx g p l room_1 s m args meth c cL_law 9 RL wsL_law) (hX : va_X b L xs s s.heap) (hbl : b < s.heap.size) (hbA : ¬ gA g b) (hL : L ≤ 2560) (t : Nat) (ht : 5 * t + 5 ≤ L) {σ : St} (hN : Nx σ) (hk9 : k0 + 5 ≤ 601024) (hn9 : n0 + 30 ≤ 7293034) (kk : ∀ u, Nx u → V g p l e room_1 s m args below meth c 9 (k0 + 5) (n0 + 30) Q u 2387 (lvL g b t) []) : V g p l e room_1 s m args below meth c 9 k0 n0 Q σ 796 (lvL g b t) [] := by
  obtain ⟨n, ty, R, D, h, hU⟩ := id hN
  by_cases hw9 : (xs (5 * t + 2)).toInt = 0
  · skip
    refine V_lv (lv' := [(0, .ref b), (1, .ref (ga g (0))), (2, .ref (ga g (89))), (3, .ref (ga g (110))), (4, .ref (ga g (111))), (5, .int (iN (5 * (t : Int))))]) rfl ?_
    refine V_aload_n X 1 rfl dL_law_796 rfl ?_
    refine V_aload_n X 0 rfl dL_law_797 rfl ?_
    refine V_iload X 5 rfl dL_law_798 ?_
    refine V_iconst X dL_law_800 ?_
    refine V_iadd X dL_law_801 ?_
    refine V_sld X hX hbl hbA (5 * t + 1) (by omega) (by omega) (by omega) dL_law_802 ?_
    refine V_aload_n X 0 rfl dL_law_803 rfl ?_
    refine V_iload X 5 rfl dL_law_804 ?_
    refine V_iconst X dL_law_806 ?_
    refine V_iadd X dL_law_807 ?_
    refine V_sld X hX hbl hbA (5 * t + 2) (by omega) (by omega) (by omega) dL_law_808 ?_
    refine V_if_eq X 816 (R32_toI _) dL_law_809 (by decide) (fun _ => ?_) (fun h9 => absurd h9 (by omega))
    refine V_iconst X dL_law_816 ?_
    refine V_aload_n X 3 rfl dL_law_817 rfl ?_
    refine V_callS_Iw X (na := 4) (m_L_time g l hl9 σ h.1 ((xs (5 * t + 1)).toInt) (0) (R32_toI _) ⟨by decide, by decide⟩ n h.LB) gL_law_L_time rfl rfl rfl (by decide +kernel) ⟨Nat.le_of_ble_eq_true rfl, Nat.le_of_ble_eq_true rfl⟩ rfl rfl (Nat.le_of_ble_eq_true rfl) ⟨by show k0 + 1 ≤ 601024; omega, by show n0 + 6 ≤ 7293034; omega⟩ dL_law_818 (fun E u hp => hp.elim) (fun z u zr hz => ?_)
    obtain ⟨f, hq⟩ := q_time ((xs (5 * t + 1)).toInt) (0) h hU  hz
    refine V_istore X [(6, .int (iN (z))), (0, .ref b), (1, .ref (ga g (0))), (2, .ref (ga g (89))), (3, .ref (ga g (110))), (4, .ref (ga g (111))), (5, .int (iN (5 * (t : Int))))] dL_law_821 (by decide) rfl ?_
    refine V_aload_n X 3 rfl dL_law_823 rfl ?_
    refine V_aload_n X 1 rfl dL_law_824 rfl ?_
    refine V_iload X 6 rfl dL_law_825 ?_
    refine V_iconst X dL_law_827 ?_
    refine V_iadd X dL_law_828 ?_
    refine V_sld X hX hbl hbA (5 * t + 1) (by omega) (by omega) (by omega) dL_law_829 ?_
    refine V_aload_n X 1 rfl dL_law_830 rfl ?_
    refine V_iload X 6 rfl dL_law_831 ?_
    refine V_iconst X dL_law_833 ?_
    refine V_iadd X dL_law_834 ?_
    refine V_sld X hX hbl hbA (5 * t + 2) (by omega) (by omega) (by omega) dL_law_835 ?_
    refine V_if_eq X 843 (R32_toI _) dL_law_836 (by decide) (fun _ => ?_) (fun h9 => absurd h9 (by omega))
    refine V_iconst X dL_law_843 ?_
    refine V_callV_I X (na := 2) (ci := 7) (b0 := 89) (by decide) (rfl) (by decide) rfl (m_X7_time g l hl9 u f.2 (h.f11b f) ((xs (5 * t + 1)).toInt) (0) (R32_toI _) ⟨by decide, by decide⟩ (h.fcb f)) gL_law_X7_time rfl rfl rfl (by decide +kernel) ⟨Nat.le_of_ble_eq_true rfl, Nat.le_of_ble_eq_true rfl⟩ rfl rfl (Nat.le_of_ble_eq_true rfl) ⟨by show k0 + 1 + 0 ≤ 601024; omega, by show n0 + 6 + 0 ≤ 7293034; omega⟩ dL_law_844 (fun b9 y9 br hy => ?_)
    obtain ⟨e1, e2, e3⟩ := hq b9 y9 hy
    refine V_istore X [(7, .int (iN (b9))), (6, .int (iN (z))), (0, .ref b), (1, .ref (ga g (0))), (2, .ref (ga g (89))), (3, .ref (ga g (110))), (4, .ref (ga g (111))), (5, .int (iN (5 * (t : Int))))] dL_law_847 (by decide) rfl ?_
    refine V_aload_n X 4 rfl dL_law_849 rfl ?_
    refine V_callV_I X (na := 0) (ci := 7) (b0 := 89) (by decide) (rfl) (by decide) rfl (m_X7_thrown g l hl9 y9 e3.rg) gL_law_X7_thrown rfl rfl rfl (by decide +kernel) ⟨Nat.le_of_ble_eq_true rfl, Nat.le_of_ble_eq_true rfl⟩ rfl rfl (Nat.le_of_ble_eq_true rfl) ⟨by show k0 + 1 + 0 + 0 ≤ 601024; omega, by show n0 + 6 + 0 + 0 ≤ 7293034; omega⟩ dL_law_850 (fun z3 u3 z3r h3 => ?_)
    obtain ⟨h3a, h3b⟩ := h3
    have h3b := h3b.symm
    subst h3b
    refine V_iload X 1 rfl dL_law_853 ?_
    refine V_icmp_eq X 860 z3r zr dL_law_855 (by decide) (fun _ => ?_) (fun h9 => absurd (h3a.trans e1) h9)
    refine V_iload X 1 rfl dL_law_860 ?_
    refine V_if_ne X 877 zr dL_law_862 (by decide) (fun hz9 => ?_) (fun hz9 => ?_)
    · skip
      refine V_goto X 2387 dL_law_877 (by decide) ?_
      refine V_sub (lv' := [(0, .ref b), (1, .ref (ga g (0))), (2, .ref (ga g (89))), (3, .ref (ga g (110))), (4, .ref (ga g (111))), (5, .int (iN (5 * (t : Int))))]) [2, 3, 4, 5, 6, 7] rfl ?_
      exact V_widen (by omega) (by omega) (kk _ e3)
    · skip
      refine V_aload_n X 5 rfl dL_law_865 rfl ?_
      refine V_iconst X dL_law_866 ?_
      refine V_laload X dL_law_867 ?_
      refine V_topl (b := b9) (e2 hz9) ?_
      refine V_iload X 0 rfl dL_law_868 ?_
      refine V_i2l X br dL_law_870 ?_
      refine V_lcmpE X dL_law_871 ?_
      refine V_if_eq X 877 ⟨by decide, by decide⟩ dL_law_872 (by decide) (fun _ => ?_) (fun h9 => absurd h9 (by decide))
      refine V_goto X 2387 dL_law_877 (by decide) ?_
      refine V_sub (lv' := [(0, .ref b), (1, .ref (ga g (0))), (2, .ref (ga g (89))), (3, .ref (ga g (110))), (4, .ref (ga g (111))), (5, .int (iN (5 * (t : Int))))]) [2, 3, 4, 5, 6, 7] rfl ?_
      exact V_widen (by omega) (by omega) (kk _ e3)
  · skip
    refine V_lv (lv' := [(0, .ref b), (1, .ref (ga g (0))), (2, .ref (ga g (89))), (3, .ref (ga g (110))), (4, .ref (ga g (111))), (5, .int (iN (5 * (t : Int))))]) rfl ?_
    refine V_aload_n X 1 rfl dL_law_796 rfl ?_
    refine V_aload_n X 0 rfl dL_law_797 rfl ?_
    refine V_iload X 5 rfl dL_law_798 ?_
    refine V_iconst X dL_law_800 ?_
    refine V_iadd X dL_law_801 ?_
    refine V_sld X hX hbl hbA (5 * t + 1) (by omega) (by omega) (by omega) dL_law_802 ?_
    refine V_aload_n X 0 rfl dL_law_803 rfl ?_
    refine V_iload X 5 rfl dL_law_804 ?_
    refine V_iconst X dL_law_806 ?_
    refine V_iadd X dL_law_807 ?_
    refine V_sld X hX hbl hbA (5 * t + 2) (by omega) (by omega) (by omega) dL_law_808 ?_
    refine V_if_eq X 816 (R32_toI _) dL_law_809 (by decide) (fun h9 => absurd h9 (by omega)) (fun _ => ?_)
    refine V_iconst X dL_law_812 ?_
    refine V_goto X 817 dL_law_813 (by decide) ?_
    refine V_aload_n X 3 rfl dL_law_817 rfl ?_
    refine V_callS_Iw X (na := 4) (m_L_time g l hl9 σ h.1 ((xs (5 * t + 1)).toInt) (1) (R32_toI _) ⟨by decide, by decide⟩ n h.LB) gL_law_L_time rfl rfl rfl (by decide +kernel) ⟨Nat.le_of_ble_eq_true rfl, Nat.le_of_ble_eq_true rfl⟩ rfl rfl (Nat.le_of_ble_eq_true rfl) ⟨by show k0 + 1 ≤ 601024; omega, by show n0 + 6 ≤ 7293034; omega⟩ dL_law_818 (fun E u hp => hp.elim) (fun z u zr hz => ?_)
    obtain ⟨f, hq⟩ := q_time ((xs (5 * t + 1)).toInt) (1) h hU  hz
    refine V_istore X [(6, .int (iN (z))), (0, .ref b), (1, .ref (ga g (0))), (2, .ref (ga g (89))), (3, .ref (ga g (110))), (4, .ref (ga g (111))), (5, .int (iN (5 * (t : Int))))] dL_law_821 (by decide) rfl ?_
    refine V_aload_n X 3 rfl dL_law_823 rfl ?_
    refine V_aload_n X 1 rfl dL_law_824 rfl ?_
    refine V_iload X 6 rfl dL_law_825 ?_
    refine V_iconst X dL_law_827 ?_
    refine V_iadd X dL_law_828 ?_
    refine V_sld X hX hbl hbA (5 * t + 1) (by omega) (by omega) (by omega) dL_law_829 ?_
    refine V_aload_n X 1 rfl dL_law_830 rfl ?_
    refine V_iload X 6 rfl dL_law_831 ?_
    refine V_iconst X dL_law_833 ?_
    refine V_iadd X dL_law_834 ?_
    refine V_sld X hX hbl hbA (5 * t + 2) (by omega) (by omega) (by omega) dL_law_835 ?_
    refine V_if_eq X 843 (R32_toI _) dL_law_836 (by decide) (fun h9 => absurd h9 (by omega)) (fun _ => ?_)
    refine V_iconst X dL_law_839 ?_
    refine V_goto X 844 dL_law_840 (by decide) ?_
    refine V_callV_I X (na := 2) (ci := 7) (b0 := 89) (by decide) (rfl) (by decide) rfl (m_X7_time g l hl9 u f.2 (h.f11b f) ((xs (5 * t + 1)).toInt) (1) (R32_toI _) ⟨by decide, by decide⟩ (h.fcb f)) gL_law_X7_time rfl rfl rfl (by decide +kernel) ⟨Nat.le_of_ble_eq_true rfl, Nat.le_of_ble_eq_true rfl⟩ rfl rfl (Nat.le_of_ble_eq_true rfl) ⟨by show k0 + 1 + 0 ≤ 601024; omega, by show n0 + 6 + 0 ≤ 7293034; omega⟩ dL_law_844 (fun b9 y9 br hy => ?_)
    obtain ⟨e1, e2, e3⟩ := hq b9 y9 hy
    refine V_istore X [(7, .int (iN (b9))), (6, .int (iN (z))), (0, .ref b), (1, .ref (ga g (0))), (2, .ref (ga g (89))), (3, .ref (ga g (110))), (4, .ref (ga g (111))), (5, .int (iN (5 * (t : Int))))] dL_law_847 (by decide) rfl ?_
    refine V_aload_n X 4 rfl dL_law_849 rfl ?_
    refine V_callV_I X (na := 0) (ci := 7) (b0 := 89) (by decide) (rfl) (by decide) rfl (m_X7_thrown g l hl9 y9 e3.rg) gL_law_X7_thrown rfl rfl rfl (by decide +kernel) ⟨Nat.le_of_ble_eq_true rfl, Nat.le_of_ble_eq_true rfl⟩ rfl rfl (Nat.le_of_ble_eq_true rfl) ⟨by show k0 + 1 + 0 + 0 ≤ 601024; omega, by show n0 + 6 + 0 + 0 ≤ 7293034; omega⟩ dL_law_850 (fun z3 u3 z3r h3 => ?_)
    obtain ⟨h3a, h3b⟩ := h3
    have h3b := h3b.symm
    subst h3b
    refine V_iload X 1 rfl dL_law_853 ?_
    refine V_icmp_eq X 860 z3r zr dL_law_855 (by decide) (fun _ => ?_) (fun h9 => absurd (h3a.trans e1) h9)
    refine V_iload X 1 rfl dL_law_860 ?_
    refine V_if_ne X 877 zr dL_law_862 (by decide) (fun hz9 => ?_) (fun hz9 => ?_)
    · skip
      refine V_goto X 2387 dL_law_877 (by decide) ?_
      refine V_sub (lv' := [(0, .ref b), (1, .ref (ga g (0))), (2, .ref (ga g (89))), (3, .ref (ga g (110))), (4, .ref (ga g (111))), (5, .int (iN (5 * (t : Int))))]) [2, 3, 4, 5, 6, 7] rfl ?_
      exact V_widen (by omega) (by omega) (kk _ e3)
    · skip
      refine V_aload_n X 5 rfl dL_law_865 rfl ?_
      refine V_iconst X dL_law_866 ?_
      refine V_laload X dL_law_867 ?_
      refine V_topl (b := b9) (e2 hz9) ?_
      refine V_iload X 0 rfl dL_law_868 ?_
      refine V_i2l X br dL_law_870 ?_
      refine V_lcmpE X dL_law_871 ?_
      refine V_if_eq X 877 ⟨by decide, by decide⟩ dL_law_872 (by decide) (fun _ => ?_) (fun h9 => absurd h9 (by decide))
      refine V_goto X 2387 dL_law_877 (by decide) ?_
      refine V_sub (lv' := [(0, .ref b), (1, .ref (ga g (0))), (2, .ref (ga g (89))), (3, .ref (ga g (110))), (4, .ref (ga g (111))), (5, .int (iN (5 * (t : Int))))]) [2, 3, 4, 5, 6, 7] rfl ?_
      exact V_widen (by omega) (by omega) (kk _ e3)
set_option maxRecDepth 100000 in
set_option maxHeartbeats 4000000 in
theorem lc_11 (g : Geo) {p : Program} (l : Launch) {e : Env} {s : State} {m : MethodId} {args : Array Value} {below : List Frame} {meth : Method} {c : Code} {k0 n0 : Nat} {Q : State → Prop} {b L : Nat} {xs : Nat → Int32} (hl9 : l.stackTraces = false) (X : Cx g p l room_1 s m args meth c cL_law 9 RL wsL_law) (hX : va_X b L xs s s.heap) (hbl : b < s.heap.size) (hbA : ¬ gA g b) (hL : L ≤ 2560) (t : Nat) (ht : 5 * t + 5 ≤ L) {σ : St} (hN : Nx σ) (hk9 : k0 + 5 ≤ 601024) (hn9 : n0 + 30 ≤ 7293034) (kk : ∀ u, Nx u → V g p l e room_1 s m args below meth c 9 (k0 + 5) (n0 + 30) Q u 2387 (lvL g b t) []) : V g p l e room_1 s m args below meth c 9 k0 n0 Q σ 880 (lvL g b t) [] := by
  obtain ⟨n, ty, R, D, h, hU⟩ := id hN
  refine V_lv (lv' := [(0, .ref b), (1, .ref (ga g (0))), (2, .ref (ga g (89))), (3, .ref (ga g (110))), (4, .ref (ga g (111))), (5, .int (iN (5 * (t : Int))))]) rfl ?_
  refine V_aload_n X 1 rfl dL_law_880 rfl ?_
  refine V_aload_n X 0 rfl dL_law_881 rfl ?_
  refine V_iload X 5 rfl dL_law_882 ?_
  refine V_iconst X dL_law_884 ?_
  refine V_iadd X dL_law_885 ?_
  refine V_sld X hX hbl hbA (5 * t + 1) (by omega) (by omega) (by omega) dL_law_886 ?_
  refine V_aload_n X 3 rfl dL_law_887 rfl ?_
  refine V_callS_Iw X (na := 3) (m_L_ticks g l hl9 σ h.1 ((xs (5 * t + 1)).toInt) (R32_toI _) h.b30) gL_law_L_ticks rfl rfl rfl (by decide +kernel) ⟨Nat.le_of_ble_eq_true rfl, Nat.le_of_ble_eq_true rfl⟩ rfl rfl (Nat.le_of_ble_eq_true rfl) ⟨by show k0 + 1 ≤ 601024; omega, by show n0 + 6 ≤ 7293034; omega⟩ dL_law_888 (fun E u hp => hp.elim) (fun z u zr hz => ?_)
  obtain ⟨f, hq⟩ := q_ticks ((xs (5 * t + 1)).toInt) h hU  hz
  refine V_istore X [(6, .int (iN (z))), (0, .ref b), (1, .ref (ga g (0))), (2, .ref (ga g (89))), (3, .ref (ga g (110))), (4, .ref (ga g (111))), (5, .int (iN (5 * (t : Int))))] dL_law_891 (by decide) rfl ?_
  refine V_aload_n X 3 rfl dL_law_893 rfl ?_
  refine V_aload_n X 1 rfl dL_law_894 rfl ?_
  refine V_iload X 6 rfl dL_law_895 ?_
  refine V_iconst X dL_law_897 ?_
  refine V_iadd X dL_law_898 ?_
  refine V_sld X hX hbl hbA (5 * t + 1) (by omega) (by omega) (by omega) dL_law_899 ?_
  refine V_callV_I X (na := 1) (ci := 7) (b0 := 89) (by decide) (rfl) (by decide) rfl (m_X7_ticks g l hl9 u f.2 (h.f11b f) ((xs (5 * t + 1)).toInt) (R32_toI _)) gL_law_X7_ticks rfl rfl rfl (by decide +kernel) ⟨Nat.le_of_ble_eq_true rfl, Nat.le_of_ble_eq_true rfl⟩ rfl rfl (Nat.le_of_ble_eq_true rfl) ⟨by show k0 + 1 + 0 ≤ 601024; omega, by show n0 + 6 + 0 ≤ 7293034; omega⟩ dL_law_900 (fun b9 y9 br hy => ?_)
  obtain ⟨e1, e2, e3⟩ := hq b9 y9 hy
  refine V_istore X [(7, .int (iN (b9))), (6, .int (iN (z))), (0, .ref b), (1, .ref (ga g (0))), (2, .ref (ga g (89))), (3, .ref (ga g (110))), (4, .ref (ga g (111))), (5, .int (iN (5 * (t : Int))))] dL_law_903 (by decide) rfl ?_
  refine V_aload_n X 4 rfl dL_law_905 rfl ?_
  refine V_callV_I X (na := 0) (ci := 7) (b0 := 89) (by decide) (rfl) (by decide) rfl (m_X7_thrown g l hl9 y9 e3.rg) gL_law_X7_thrown rfl rfl rfl (by decide +kernel) ⟨Nat.le_of_ble_eq_true rfl, Nat.le_of_ble_eq_true rfl⟩ rfl rfl (Nat.le_of_ble_eq_true rfl) ⟨by show k0 + 1 + 0 + 0 ≤ 601024; omega, by show n0 + 6 + 0 + 0 ≤ 7293034; omega⟩ dL_law_906 (fun z3 u3 z3r h3 => ?_)
  obtain ⟨h3a, h3b⟩ := h3
  have h3b := h3b.symm
  subst h3b
  refine V_iload X 1 rfl dL_law_909 ?_
  refine V_icmp_eq X 916 z3r zr dL_law_911 (by decide) (fun _ => ?_) (fun h9 => absurd (h3a.trans e1) h9)
  refine V_iload X 1 rfl dL_law_916 ?_
  refine V_if_ne X 933 zr dL_law_918 (by decide) (fun hz9 => ?_) (fun hz9 => ?_)
  · skip
    refine V_goto X 2387 dL_law_933 (by decide) ?_
    refine V_sub (lv' := [(0, .ref b), (1, .ref (ga g (0))), (2, .ref (ga g (89))), (3, .ref (ga g (110))), (4, .ref (ga g (111))), (5, .int (iN (5 * (t : Int))))]) [2, 3, 4, 5, 6, 7] rfl ?_
    exact V_widen (by omega) (by omega) (kk _ e3)
  · skip
    refine V_aload_n X 5 rfl dL_law_921 rfl ?_
    refine V_iconst X dL_law_922 ?_
    refine V_laload X dL_law_923 ?_
    refine V_topl (b := b9) (e2 hz9) ?_
    refine V_iload X 0 rfl dL_law_924 ?_
    refine V_i2l X br dL_law_926 ?_
    refine V_lcmpE X dL_law_927 ?_
    refine V_if_eq X 933 ⟨by decide, by decide⟩ dL_law_928 (by decide) (fun _ => ?_) (fun h9 => absurd h9 (by decide))
    refine V_goto X 2387 dL_law_933 (by decide) ?_
    refine V_sub (lv' := [(0, .ref b), (1, .ref (ga g (0))), (2, .ref (ga g (89))), (3, .ref (ga g (110))), (4, .ref (ga g (111))), (5, .int (iN (5 * (t : Int))))]) [2, 3, 4, 5, 6, 7] rfl ?_
    exact V_widen (by omega) (by omega) (kk _ e3)
set_option maxRecDepth 100000 in
set_option maxHeartbeats 4000000 in
theorem lc_12 (g : Geo) {p : Program} (l : Launch) {e : Env} {s : State} {m : MethodId} {args : Array Value} {below : List Frame} {meth : Method} {c : Code} {k0 n0 : Nat} {Q : State → Prop} {b L : Nat} {xs : Nat → Int32} (hl9 : l.stackTraces = false) (X : Cx g p l room_1 s m args meth c cL_law 9 RL wsL_law) (hX : va_X b L xs s s.heap) (hbl : b < s.heap.size) (hbA : ¬ gA g b) (hL : L ≤ 2560) (t : Nat) (ht : 5 * t + 5 ≤ L) {σ : St} (hN : Nx σ) (hk9 : k0 + 5 ≤ 601024) (hn9 : n0 + 30 ≤ 7293034) (kk : ∀ u, Nx u → V g p l e room_1 s m args below meth c 9 (k0 + 5) (n0 + 30) Q u 2387 (lvL g b t) []) : V g p l e room_1 s m args below meth c 9 k0 n0 Q σ 936 (lvL g b t) [] := by
  obtain ⟨n, ty, R, D, h, hU⟩ := id hN
  refine V_lv (lv' := [(0, .ref b), (1, .ref (ga g (0))), (2, .ref (ga g (89))), (3, .ref (ga g (110))), (4, .ref (ga g (111))), (5, .int (iN (5 * (t : Int))))]) rfl ?_
  refine V_aload_n X 1 rfl dL_law_936 rfl ?_
  refine V_aload_n X 0 rfl dL_law_937 rfl ?_
  refine V_iload X 5 rfl dL_law_938 ?_
  refine V_iconst X dL_law_940 ?_
  refine V_iadd X dL_law_941 ?_
  refine V_sld X hX hbl hbA (5 * t + 1) (by omega) (by omega) (by omega) dL_law_942 ?_
  refine V_aload_n X 0 rfl dL_law_943 rfl ?_
  refine V_iload X 5 rfl dL_law_944 ?_
  refine V_iconst X dL_law_946 ?_
  refine V_iadd X dL_law_947 ?_
  refine V_sld X hX hbl hbA (5 * t + 2) (by omega) (by omega) (by omega) dL_law_948 ?_
  refine V_aload_n X 3 rfl dL_law_949 rfl ?_
  refine V_callS_Iw X (na := 4) (m_L_inputAt g l hl9 σ h.1 ((xs (5 * t + 1)).toInt) ((xs (5 * t + 2)).toInt) (R32_toI _) (R32_toI _) n h.LB h.il) gL_law_L_inputAt rfl rfl rfl (by decide +kernel) ⟨Nat.le_of_ble_eq_true rfl, Nat.le_of_ble_eq_true rfl⟩ rfl rfl (Nat.le_of_ble_eq_true rfl) ⟨by show k0 + 2 ≤ 601024; omega, by show n0 + 12 ≤ 7293034; omega⟩ dL_law_950 (fun E u hp => hp.elim) (fun z u zr hz => ?_)
  obtain ⟨f, hq⟩ := q_inputAt ((xs (5 * t + 1)).toInt) ((xs (5 * t + 2)).toInt) h hU  hz
  refine V_istore X [(6, .int (iN (z))), (0, .ref b), (1, .ref (ga g (0))), (2, .ref (ga g (89))), (3, .ref (ga g (110))), (4, .ref (ga g (111))), (5, .int (iN (5 * (t : Int))))] dL_law_953 (by decide) rfl ?_
  refine V_aload_n X 3 rfl dL_law_955 rfl ?_
  refine V_aload_n X 1 rfl dL_law_956 rfl ?_
  refine V_iload X 6 rfl dL_law_957 ?_
  refine V_iconst X dL_law_959 ?_
  refine V_iadd X dL_law_960 ?_
  refine V_sld X hX hbl hbA (5 * t + 1) (by omega) (by omega) (by omega) dL_law_961 ?_
  refine V_aload_n X 1 rfl dL_law_962 rfl ?_
  refine V_iload X 6 rfl dL_law_963 ?_
  refine V_iconst X dL_law_965 ?_
  refine V_iadd X dL_law_966 ?_
  refine V_sld X hX hbl hbA (5 * t + 2) (by omega) (by omega) (by omega) dL_law_967 ?_
  refine V_callV_I X (na := 2) (ci := 7) (b0 := 89) (by decide) (rfl) (by decide) rfl (m_X7_inputAt g l hl9 u f.2 (h.f11b f) ((xs (5 * t + 1)).toInt) ((xs (5 * t + 2)).toInt) (R32_toI _) (R32_toI _) (h.ftk f) (h.fin f)) gL_law_X7_inputAt rfl rfl rfl (by decide +kernel) ⟨Nat.le_of_ble_eq_true rfl, Nat.le_of_ble_eq_true rfl⟩ rfl rfl (Nat.le_of_ble_eq_true rfl) ⟨by show k0 + 2 + 0 ≤ 601024; omega, by show n0 + 12 + 0 ≤ 7293034; omega⟩ dL_law_968 (fun b9 y9 br hy => ?_)
  obtain ⟨e1, e2, e3⟩ := hq b9 y9 hy
  refine V_istore X [(7, .int (iN (b9))), (6, .int (iN (z))), (0, .ref b), (1, .ref (ga g (0))), (2, .ref (ga g (89))), (3, .ref (ga g (110))), (4, .ref (ga g (111))), (5, .int (iN (5 * (t : Int))))] dL_law_971 (by decide) rfl ?_
  refine V_aload_n X 4 rfl dL_law_973 rfl ?_
  refine V_callV_I X (na := 0) (ci := 7) (b0 := 89) (by decide) (rfl) (by decide) rfl (m_X7_thrown g l hl9 y9 e3.rg) gL_law_X7_thrown rfl rfl rfl (by decide +kernel) ⟨Nat.le_of_ble_eq_true rfl, Nat.le_of_ble_eq_true rfl⟩ rfl rfl (Nat.le_of_ble_eq_true rfl) ⟨by show k0 + 2 + 0 + 0 ≤ 601024; omega, by show n0 + 12 + 0 + 0 ≤ 7293034; omega⟩ dL_law_974 (fun z3 u3 z3r h3 => ?_)
  obtain ⟨h3a, h3b⟩ := h3
  have h3b := h3b.symm
  subst h3b
  refine V_iload X 1 rfl dL_law_977 ?_
  refine V_icmp_eq X 984 z3r zr dL_law_979 (by decide) (fun _ => ?_) (fun h9 => absurd (h3a.trans e1) h9)
  refine V_iload X 1 rfl dL_law_984 ?_
  refine V_if_ne X 1001 zr dL_law_986 (by decide) (fun hz9 => ?_) (fun hz9 => ?_)
  · skip
    refine V_goto X 2387 dL_law_1001 (by decide) ?_
    refine V_sub (lv' := [(0, .ref b), (1, .ref (ga g (0))), (2, .ref (ga g (89))), (3, .ref (ga g (110))), (4, .ref (ga g (111))), (5, .int (iN (5 * (t : Int))))]) [2, 3, 4, 5, 6, 7] rfl ?_
    exact V_widen (by omega) (by omega) (kk _ e3)
  · skip
    refine V_aload_n X 5 rfl dL_law_989 rfl ?_
    refine V_iconst X dL_law_990 ?_
    refine V_laload X dL_law_991 ?_
    refine V_topl (b := b9) (e2 hz9) ?_
    refine V_iload X 0 rfl dL_law_992 ?_
    refine V_i2l X br dL_law_994 ?_
    refine V_lcmpE X dL_law_995 ?_
    refine V_if_eq X 1001 ⟨by decide, by decide⟩ dL_law_996 (by decide) (fun _ => ?_) (fun h9 => absurd h9 (by decide))
    refine V_goto X 2387 dL_law_1001 (by decide) ?_
    refine V_sub (lv' := [(0, .ref b), (1, .ref (ga g (0))), (2, .ref (ga g (89))), (3, .ref (ga g (110))), (4, .ref (ga g (111))), (5, .int (iN (5 * (t : Int))))]) [2, 3, 4, 5, 6, 7] rfl ?_
    exact V_widen (by omega) (by omega) (kk _ e3)
set_option maxRecDepth 100000 in
set_option maxHeartbeats 4000000 in
theorem lc_13 (g : Geo) {p : Program} (l : Launch) {e : Env} {s : State} {m : MethodId} {args : Array Value} {below : List Frame} {meth : Method} {c : Code} {k0 n0 : Nat} {Q : State → Prop} {b L : Nat} {xs : Nat → Int32} (hl9 : l.stackTraces = false) (X : Cx g p l room_1 s m args meth c cL_law 9 RL wsL_law) (hX : va_X b L xs s s.heap) (hbl : b < s.heap.size) (hbA : ¬ gA g b) (hL : L ≤ 2560) (t : Nat) (ht : 5 * t + 5 ≤ L) {σ : St} (hN : Nx σ) (hk9 : k0 + 5 ≤ 601024) (hn9 : n0 + 30 ≤ 7293034) (kk : ∀ u, Nx u → V g p l e room_1 s m args below meth c 9 (k0 + 5) (n0 + 30) Q u 2387 (lvL g b t) []) : V g p l e room_1 s m args below meth c 9 k0 n0 Q σ 1004 (lvL g b t) [] := by
  obtain ⟨n, ty, R, D, h, hU⟩ := id hN
  by_cases hw9 : (xs (5 * t + 3)).toInt = 0
  · skip
    refine V_lv (lv' := [(0, .ref b), (1, .ref (ga g (0))), (2, .ref (ga g (89))), (3, .ref (ga g (110))), (4, .ref (ga g (111))), (5, .int (iN (5 * (t : Int))))]) rfl ?_
    refine V_aload_n X 1 rfl dL_law_1004 rfl ?_
    refine V_aload_n X 0 rfl dL_law_1005 rfl ?_
    refine V_iload X 5 rfl dL_law_1006 ?_
    refine V_iconst X dL_law_1008 ?_
    refine V_iadd X dL_law_1009 ?_
    refine V_sld X hX hbl hbA (5 * t + 1) (by omega) (by omega) (by omega) dL_law_1010 ?_
    refine V_aload_n X 0 rfl dL_law_1011 rfl ?_
    refine V_iload X 5 rfl dL_law_1012 ?_
    refine V_iconst X dL_law_1014 ?_
    refine V_iadd X dL_law_1015 ?_
    refine V_sld X hX hbl hbA (5 * t + 2) (by omega) (by omega) (by omega) dL_law_1016 ?_
    refine V_aload_n X 0 rfl dL_law_1017 rfl ?_
    refine V_iload X 5 rfl dL_law_1018 ?_
    refine V_iconst X dL_law_1020 ?_
    refine V_iadd X dL_law_1021 ?_
    refine V_sld X hX hbl hbA (5 * t + 3) (by omega) (by omega) (by omega) dL_law_1022 ?_
    refine V_if_eq X 1030 (R32_toI _) dL_law_1023 (by decide) (fun _ => ?_) (fun h9 => absurd h9 (by omega))
    refine V_iconst X dL_law_1030 ?_
    refine V_aload_n X 3 rfl dL_law_1031 rfl ?_
    refine V_callS_Iw X (na := 5) (m_L_replay g l hl9 σ h.1 ((xs (5 * t + 1)).toInt) ((xs (5 * t + 2)).toInt) (0) (R32_toI _) (R32_toI _) ⟨by decide, by decide⟩ n h.LB h.TK h.c1.2 h.c3.2 h.lt) gL_law_L_replay rfl rfl rfl (by decide +kernel) ⟨Nat.le_of_ble_eq_true rfl, Nat.le_of_ble_eq_true rfl⟩ rfl rfl (Nat.le_of_ble_eq_true rfl) ⟨by show k0 + 2 ≤ 601024; omega, by show n0 + 12 ≤ 7293034; omega⟩ dL_law_1032 (fun E u hp => hp.elim) (fun z u zr hz => ?_)
    obtain ⟨f, hq⟩ := q_replay ((xs (5 * t + 1)).toInt) ((xs (5 * t + 2)).toInt) (0) h hU  hz
    refine V_istore X [(6, .int (iN (z))), (0, .ref b), (1, .ref (ga g (0))), (2, .ref (ga g (89))), (3, .ref (ga g (110))), (4, .ref (ga g (111))), (5, .int (iN (5 * (t : Int))))] dL_law_1035 (by decide) rfl ?_
    refine V_aload_n X 3 rfl dL_law_1037 rfl ?_
    refine V_aload_n X 1 rfl dL_law_1038 rfl ?_
    refine V_iload X 6 rfl dL_law_1039 ?_
    refine V_iconst X dL_law_1041 ?_
    refine V_iadd X dL_law_1042 ?_
    refine V_sld X hX hbl hbA (5 * t + 1) (by omega) (by omega) (by omega) dL_law_1043 ?_
    refine V_aload_n X 1 rfl dL_law_1044 rfl ?_
    refine V_iload X 6 rfl dL_law_1045 ?_
    refine V_iconst X dL_law_1047 ?_
    refine V_iadd X dL_law_1048 ?_
    refine V_sld X hX hbl hbA (5 * t + 2) (by omega) (by omega) (by omega) dL_law_1049 ?_
    refine V_aload_n X 1 rfl dL_law_1050 rfl ?_
    refine V_iload X 6 rfl dL_law_1051 ?_
    refine V_iconst X dL_law_1053 ?_
    refine V_iadd X dL_law_1054 ?_
    refine V_sld X hX hbl hbA (5 * t + 3) (by omega) (by omega) (by omega) dL_law_1055 ?_
    refine V_if_eq X 1063 (R32_toI _) dL_law_1056 (by decide) (fun _ => ?_) (fun h9 => absurd h9 (by omega))
    refine V_iconst X dL_law_1063 ?_
    refine V_callV_I X (na := 3) (ci := 7) (b0 := 89) (by decide) (rfl) (by decide) rfl (m_X7_replay g l hl9 u f.2 (f.TM h.2.2.1.1) (f.CM h.2.2.1.2) n (f.MB h.MB) ((xs (5 * t + 1)).toInt) ((xs (5 * t + 2)).toInt) (0) (R32_toI _) (R32_toI _) ⟨by decide, by decide⟩ (h.fno f) (h.flt f)) gL_law_X7_replay rfl rfl rfl (by decide +kernel) ⟨Nat.le_of_ble_eq_true rfl, Nat.le_of_ble_eq_true rfl⟩ rfl rfl (Nat.le_of_ble_eq_true rfl) ⟨by show k0 + 2 + 0 ≤ 601024; omega, by show n0 + 12 + 0 ≤ 7293034; omega⟩ dL_law_1064 (fun b9 y9 br hy => ?_)
    obtain ⟨e1, e2, e3⟩ := hq b9 y9 hy
    refine V_istore X [(7, .int (iN (b9))), (6, .int (iN (z))), (0, .ref b), (1, .ref (ga g (0))), (2, .ref (ga g (89))), (3, .ref (ga g (110))), (4, .ref (ga g (111))), (5, .int (iN (5 * (t : Int))))] dL_law_1067 (by decide) rfl ?_
    refine V_aload_n X 4 rfl dL_law_1069 rfl ?_
    refine V_callV_I X (na := 0) (ci := 7) (b0 := 89) (by decide) (rfl) (by decide) rfl (m_X7_thrown g l hl9 y9 e3.rg) gL_law_X7_thrown rfl rfl rfl (by decide +kernel) ⟨Nat.le_of_ble_eq_true rfl, Nat.le_of_ble_eq_true rfl⟩ rfl rfl (Nat.le_of_ble_eq_true rfl) ⟨by show k0 + 2 + 0 + 0 ≤ 601024; omega, by show n0 + 12 + 0 + 0 ≤ 7293034; omega⟩ dL_law_1070 (fun z3 u3 z3r h3 => ?_)
    obtain ⟨h3a, h3b⟩ := h3
    have h3b := h3b.symm
    subst h3b
    refine V_iload X 1 rfl dL_law_1073 ?_
    refine V_icmp_eq X 1080 z3r zr dL_law_1075 (by decide) (fun _ => ?_) (fun h9 => absurd (h3a.trans e1) h9)
    refine V_iload X 1 rfl dL_law_1080 ?_
    refine V_if_ne X 1097 zr dL_law_1082 (by decide) (fun hz9 => ?_) (fun hz9 => ?_)
    · skip
      refine V_goto X 2387 dL_law_1097 (by decide) ?_
      refine V_sub (lv' := [(0, .ref b), (1, .ref (ga g (0))), (2, .ref (ga g (89))), (3, .ref (ga g (110))), (4, .ref (ga g (111))), (5, .int (iN (5 * (t : Int))))]) [2, 3, 4, 5, 6, 7] rfl ?_
      exact V_widen (by omega) (by omega) (kk _ e3)
    · skip
      refine V_aload_n X 5 rfl dL_law_1085 rfl ?_
      refine V_iconst X dL_law_1086 ?_
      refine V_laload X dL_law_1087 ?_
      refine V_topl (b := b9) (e2 hz9) ?_
      refine V_iload X 0 rfl dL_law_1088 ?_
      refine V_i2l X br dL_law_1090 ?_
      refine V_lcmpE X dL_law_1091 ?_
      refine V_if_eq X 1097 ⟨by decide, by decide⟩ dL_law_1092 (by decide) (fun _ => ?_) (fun h9 => absurd h9 (by decide))
      refine V_goto X 2387 dL_law_1097 (by decide) ?_
      refine V_sub (lv' := [(0, .ref b), (1, .ref (ga g (0))), (2, .ref (ga g (89))), (3, .ref (ga g (110))), (4, .ref (ga g (111))), (5, .int (iN (5 * (t : Int))))]) [2, 3, 4, 5, 6, 7] rfl ?_
      exact V_widen (by omega) (by omega) (kk _ e3)
  · skip
    refine V_lv (lv' := [(0, .ref b), (1, .ref (ga g (0))), (2, .ref (ga g (89))), (3, .ref (ga g (110))), (4, .ref (ga g (111))), (5, .int (iN (5 * (t : Int))))]) rfl ?_
    refine V_aload_n X 1 rfl dL_law_1004 rfl ?_
    refine V_aload_n X 0 rfl dL_law_1005 rfl ?_
    refine V_iload X 5 rfl dL_law_1006 ?_
    refine V_iconst X dL_law_1008 ?_
    refine V_iadd X dL_law_1009 ?_
    refine V_sld X hX hbl hbA (5 * t + 1) (by omega) (by omega) (by omega) dL_law_1010 ?_
    refine V_aload_n X 0 rfl dL_law_1011 rfl ?_
    refine V_iload X 5 rfl dL_law_1012 ?_
    refine V_iconst X dL_law_1014 ?_
    refine V_iadd X dL_law_1015 ?_
    refine V_sld X hX hbl hbA (5 * t + 2) (by omega) (by omega) (by omega) dL_law_1016 ?_
    refine V_aload_n X 0 rfl dL_law_1017 rfl ?_
    refine V_iload X 5 rfl dL_law_1018 ?_
    refine V_iconst X dL_law_1020 ?_
    refine V_iadd X dL_law_1021 ?_
    refine V_sld X hX hbl hbA (5 * t + 3) (by omega) (by omega) (by omega) dL_law_1022 ?_
    refine V_if_eq X 1030 (R32_toI _) dL_law_1023 (by decide) (fun h9 => absurd h9 (by omega)) (fun _ => ?_)
    refine V_iconst X dL_law_1026 ?_
    refine V_goto X 1031 dL_law_1027 (by decide) ?_
    refine V_aload_n X 3 rfl dL_law_1031 rfl ?_
    refine V_callS_Iw X (na := 5) (m_L_replay g l hl9 σ h.1 ((xs (5 * t + 1)).toInt) ((xs (5 * t + 2)).toInt) (1) (R32_toI _) (R32_toI _) ⟨by decide, by decide⟩ n h.LB h.TK h.c1.2 h.c3.2 h.lt) gL_law_L_replay rfl rfl rfl (by decide +kernel) ⟨Nat.le_of_ble_eq_true rfl, Nat.le_of_ble_eq_true rfl⟩ rfl rfl (Nat.le_of_ble_eq_true rfl) ⟨by show k0 + 2 ≤ 601024; omega, by show n0 + 12 ≤ 7293034; omega⟩ dL_law_1032 (fun E u hp => hp.elim) (fun z u zr hz => ?_)
    obtain ⟨f, hq⟩ := q_replay ((xs (5 * t + 1)).toInt) ((xs (5 * t + 2)).toInt) (1) h hU  hz
    refine V_istore X [(6, .int (iN (z))), (0, .ref b), (1, .ref (ga g (0))), (2, .ref (ga g (89))), (3, .ref (ga g (110))), (4, .ref (ga g (111))), (5, .int (iN (5 * (t : Int))))] dL_law_1035 (by decide) rfl ?_
    refine V_aload_n X 3 rfl dL_law_1037 rfl ?_
    refine V_aload_n X 1 rfl dL_law_1038 rfl ?_
    refine V_iload X 6 rfl dL_law_1039 ?_
    refine V_iconst X dL_law_1041 ?_
    refine V_iadd X dL_law_1042 ?_
    refine V_sld X hX hbl hbA (5 * t + 1) (by omega) (by omega) (by omega) dL_law_1043 ?_
    refine V_aload_n X 1 rfl dL_law_1044 rfl ?_
    refine V_iload X 6 rfl dL_law_1045 ?_
    refine V_iconst X dL_law_1047 ?_
    refine V_iadd X dL_law_1048 ?_
    refine V_sld X hX hbl hbA (5 * t + 2) (by omega) (by omega) (by omega) dL_law_1049 ?_
    refine V_aload_n X 1 rfl dL_law_1050 rfl ?_
    refine V_iload X 6 rfl dL_law_1051 ?_
    refine V_iconst X dL_law_1053 ?_
    refine V_iadd X dL_law_1054 ?_
    refine V_sld X hX hbl hbA (5 * t + 3) (by omega) (by omega) (by omega) dL_law_1055 ?_
    refine V_if_eq X 1063 (R32_toI _) dL_law_1056 (by decide) (fun h9 => absurd h9 (by omega)) (fun _ => ?_)
    refine V_iconst X dL_law_1059 ?_
    refine V_goto X 1064 dL_law_1060 (by decide) ?_
    refine V_callV_I X (na := 3) (ci := 7) (b0 := 89) (by decide) (rfl) (by decide) rfl (m_X7_replay g l hl9 u f.2 (f.TM h.2.2.1.1) (f.CM h.2.2.1.2) n (f.MB h.MB) ((xs (5 * t + 1)).toInt) ((xs (5 * t + 2)).toInt) (1) (R32_toI _) (R32_toI _) ⟨by decide, by decide⟩ (h.fno f) (h.flt f)) gL_law_X7_replay rfl rfl rfl (by decide +kernel) ⟨Nat.le_of_ble_eq_true rfl, Nat.le_of_ble_eq_true rfl⟩ rfl rfl (Nat.le_of_ble_eq_true rfl) ⟨by show k0 + 2 + 0 ≤ 601024; omega, by show n0 + 12 + 0 ≤ 7293034; omega⟩ dL_law_1064 (fun b9 y9 br hy => ?_)
    obtain ⟨e1, e2, e3⟩ := hq b9 y9 hy
    refine V_istore X [(7, .int (iN (b9))), (6, .int (iN (z))), (0, .ref b), (1, .ref (ga g (0))), (2, .ref (ga g (89))), (3, .ref (ga g (110))), (4, .ref (ga g (111))), (5, .int (iN (5 * (t : Int))))] dL_law_1067 (by decide) rfl ?_
    refine V_aload_n X 4 rfl dL_law_1069 rfl ?_
    refine V_callV_I X (na := 0) (ci := 7) (b0 := 89) (by decide) (rfl) (by decide) rfl (m_X7_thrown g l hl9 y9 e3.rg) gL_law_X7_thrown rfl rfl rfl (by decide +kernel) ⟨Nat.le_of_ble_eq_true rfl, Nat.le_of_ble_eq_true rfl⟩ rfl rfl (Nat.le_of_ble_eq_true rfl) ⟨by show k0 + 2 + 0 + 0 ≤ 601024; omega, by show n0 + 12 + 0 + 0 ≤ 7293034; omega⟩ dL_law_1070 (fun z3 u3 z3r h3 => ?_)
    obtain ⟨h3a, h3b⟩ := h3
    have h3b := h3b.symm
    subst h3b
    refine V_iload X 1 rfl dL_law_1073 ?_
    refine V_icmp_eq X 1080 z3r zr dL_law_1075 (by decide) (fun _ => ?_) (fun h9 => absurd (h3a.trans e1) h9)
    refine V_iload X 1 rfl dL_law_1080 ?_
    refine V_if_ne X 1097 zr dL_law_1082 (by decide) (fun hz9 => ?_) (fun hz9 => ?_)
    · skip
      refine V_goto X 2387 dL_law_1097 (by decide) ?_
      refine V_sub (lv' := [(0, .ref b), (1, .ref (ga g (0))), (2, .ref (ga g (89))), (3, .ref (ga g (110))), (4, .ref (ga g (111))), (5, .int (iN (5 * (t : Int))))]) [2, 3, 4, 5, 6, 7] rfl ?_
      exact V_widen (by omega) (by omega) (kk _ e3)
    · skip
      refine V_aload_n X 5 rfl dL_law_1085 rfl ?_
      refine V_iconst X dL_law_1086 ?_
      refine V_laload X dL_law_1087 ?_
      refine V_topl (b := b9) (e2 hz9) ?_
      refine V_iload X 0 rfl dL_law_1088 ?_
      refine V_i2l X br dL_law_1090 ?_
      refine V_lcmpE X dL_law_1091 ?_
      refine V_if_eq X 1097 ⟨by decide, by decide⟩ dL_law_1092 (by decide) (fun _ => ?_) (fun h9 => absurd h9 (by decide))
      refine V_goto X 2387 dL_law_1097 (by decide) ?_
      refine V_sub (lv' := [(0, .ref b), (1, .ref (ga g (0))), (2, .ref (ga g (89))), (3, .ref (ga g (110))), (4, .ref (ga g (111))), (5, .int (iN (5 * (t : Int))))]) [2, 3, 4, 5, 6, 7] rfl ?_
      exact V_widen (by omega) (by omega) (kk _ e3)
set_option maxRecDepth 100000 in
set_option maxHeartbeats 4000000 in
theorem lc_14 (g : Geo) {p : Program} (l : Launch) {e : Env} {s : State} {m : MethodId} {args : Array Value} {below : List Frame} {meth : Method} {c : Code} {k0 n0 : Nat} {Q : State → Prop} {b L : Nat} {xs : Nat → Int32} (hl9 : l.stackTraces = false) (X : Cx g p l room_1 s m args meth c cL_law 9 RL wsL_law) (hX : va_X b L xs s s.heap) (hbl : b < s.heap.size) (hbA : ¬ gA g b) (hL : L ≤ 2560) (t : Nat) (ht : 5 * t + 5 ≤ L) {σ : St} (hN : Nx σ) (hk9 : k0 + 5 ≤ 601024) (hn9 : n0 + 30 ≤ 7293034) (kk : ∀ u, Nx u → V g p l e room_1 s m args below meth c 9 (k0 + 5) (n0 + 30) Q u 2387 (lvL g b t) []) : V g p l e room_1 s m args below meth c 9 k0 n0 Q σ 1100 (lvL g b t) [] := by
  obtain ⟨n, ty, R, D, h, hU⟩ := id hN
  refine V_lv (lv' := [(0, .ref b), (1, .ref (ga g (0))), (2, .ref (ga g (89))), (3, .ref (ga g (110))), (4, .ref (ga g (111))), (5, .int (iN (5 * (t : Int))))]) rfl ?_
  refine V_aload_n X 1 rfl dL_law_1100 rfl ?_
  refine V_aload_n X 0 rfl dL_law_1101 rfl ?_
  refine V_iload X 5 rfl dL_law_1102 ?_
  refine V_iconst X dL_law_1104 ?_
  refine V_iadd X dL_law_1105 ?_
  refine V_sld X hX hbl hbA (5 * t + 1) (by omega) (by omega) (by omega) dL_law_1106 ?_
  refine V_aload_n X 0 rfl dL_law_1107 rfl ?_
  refine V_iload X 5 rfl dL_law_1108 ?_
  refine V_iconst X dL_law_1110 ?_
  refine V_iadd X dL_law_1111 ?_
  refine V_sld X hX hbl hbA (5 * t + 2) (by omega) (by omega) (by omega) dL_law_1112 ?_
  refine V_i2c X (chI_e _) dL_law_1113 ?_
  refine V_aload_n X 3 rfl dL_law_1114 rfl ?_
  refine V_callS_Iw X (na := 4) (m_L_of g l hl9 σ h.1 ((xs (5 * t + 1)).toInt) (chI ((xs (5 * t + 2)).toInt)) (R32_toI _) (chI_r _) h.b30) gL_law_L_of rfl rfl rfl (by decide +kernel) ⟨Nat.le_of_ble_eq_true rfl, Nat.le_of_ble_eq_true rfl⟩ rfl rfl (Nat.le_of_ble_eq_true rfl) ⟨by show k0 + 2 ≤ 601024; omega, by show n0 + 12 ≤ 7293034; omega⟩ dL_law_1115 (fun E u hp => hp.elim) (fun z u zr hz => ?_)
  obtain ⟨f, hq⟩ := q_of ((xs (5 * t + 1)).toInt) (chI ((xs (5 * t + 2)).toInt)) h hU  hz
  refine V_istore X [(6, .int (iN (z))), (0, .ref b), (1, .ref (ga g (0))), (2, .ref (ga g (89))), (3, .ref (ga g (110))), (4, .ref (ga g (111))), (5, .int (iN (5 * (t : Int))))] dL_law_1118 (by decide) rfl ?_
  refine V_aload_n X 3 rfl dL_law_1120 rfl ?_
  refine V_aload_n X 1 rfl dL_law_1121 rfl ?_
  refine V_iload X 6 rfl dL_law_1122 ?_
  refine V_iconst X dL_law_1124 ?_
  refine V_iadd X dL_law_1125 ?_
  refine V_sld X hX hbl hbA (5 * t + 1) (by omega) (by omega) (by omega) dL_law_1126 ?_
  refine V_aload_n X 1 rfl dL_law_1127 rfl ?_
  refine V_iload X 6 rfl dL_law_1128 ?_
  refine V_iconst X dL_law_1130 ?_
  refine V_iadd X dL_law_1131 ?_
  refine V_sld X hX hbl hbA (5 * t + 2) (by omega) (by omega) (by omega) dL_law_1132 ?_
  refine V_i2c X (chI_e _) dL_law_1133 ?_
  refine V_callV_I X (na := 2) (ci := 7) (b0 := 89) (by decide) (rfl) (by decide) rfl (m_X7_of g l hl9 u f.2 n (f.MB h.MB) ((xs (5 * t + 1)).toInt) (chI ((xs (5 * t + 2)).toInt)) (R32_toI _) (chI_r _)) gL_law_X7_of rfl rfl rfl (by decide +kernel) ⟨Nat.le_of_ble_eq_true rfl, Nat.le_of_ble_eq_true rfl⟩ rfl rfl (Nat.le_of_ble_eq_true rfl) ⟨by show k0 + 2 + 0 ≤ 601024; omega, by show n0 + 12 + 0 ≤ 7293034; omega⟩ dL_law_1134 (fun b9 y9 br hy => ?_)
  obtain ⟨e1, e2, e3⟩ := hq b9 y9 hy
  refine V_istore X [(7, .int (iN (b9))), (6, .int (iN (z))), (0, .ref b), (1, .ref (ga g (0))), (2, .ref (ga g (89))), (3, .ref (ga g (110))), (4, .ref (ga g (111))), (5, .int (iN (5 * (t : Int))))] dL_law_1137 (by decide) rfl ?_
  refine V_aload_n X 4 rfl dL_law_1139 rfl ?_
  refine V_callV_I X (na := 0) (ci := 7) (b0 := 89) (by decide) (rfl) (by decide) rfl (m_X7_thrown g l hl9 y9 e3.rg) gL_law_X7_thrown rfl rfl rfl (by decide +kernel) ⟨Nat.le_of_ble_eq_true rfl, Nat.le_of_ble_eq_true rfl⟩ rfl rfl (Nat.le_of_ble_eq_true rfl) ⟨by show k0 + 2 + 0 + 0 ≤ 601024; omega, by show n0 + 12 + 0 + 0 ≤ 7293034; omega⟩ dL_law_1140 (fun z3 u3 z3r h3 => ?_)
  obtain ⟨h3a, h3b⟩ := h3
  have h3b := h3b.symm
  subst h3b
  refine V_iload X 1 rfl dL_law_1143 ?_
  refine V_icmp_eq X 1150 z3r zr dL_law_1145 (by decide) (fun _ => ?_) (fun h9 => absurd (h3a.trans e1) h9)
  refine V_iload X 1 rfl dL_law_1150 ?_
  refine V_if_ne X 1167 zr dL_law_1152 (by decide) (fun hz9 => ?_) (fun hz9 => ?_)
  · skip
    refine V_goto X 2387 dL_law_1167 (by decide) ?_
    refine V_sub (lv' := [(0, .ref b), (1, .ref (ga g (0))), (2, .ref (ga g (89))), (3, .ref (ga g (110))), (4, .ref (ga g (111))), (5, .int (iN (5 * (t : Int))))]) [2, 3, 4, 5, 6, 7] rfl ?_
    exact V_widen (by omega) (by omega) (kk _ e3)
  · skip
    refine V_aload_n X 5 rfl dL_law_1155 rfl ?_
    refine V_iconst X dL_law_1156 ?_
    refine V_laload X dL_law_1157 ?_
    refine V_topl (b := b9) (e2 hz9) ?_
    refine V_iload X 0 rfl dL_law_1158 ?_
    refine V_i2l X br dL_law_1160 ?_
    refine V_lcmpE X dL_law_1161 ?_
    refine V_if_eq X 1167 ⟨by decide, by decide⟩ dL_law_1162 (by decide) (fun _ => ?_) (fun h9 => absurd h9 (by decide))
    refine V_goto X 2387 dL_law_1167 (by decide) ?_
    refine V_sub (lv' := [(0, .ref b), (1, .ref (ga g (0))), (2, .ref (ga g (89))), (3, .ref (ga g (110))), (4, .ref (ga g (111))), (5, .int (iN (5 * (t : Int))))]) [2, 3, 4, 5, 6, 7] rfl ?_
    exact V_widen (by omega) (by omega) (kk _ e3)
set_option maxRecDepth 100000 in
set_option maxHeartbeats 4000000 in
theorem lc_15 (g : Geo) {p : Program} (l : Launch) {e : Env} {s : State} {m : MethodId} {args : Array Value} {below : List Frame} {meth : Method} {c : Code} {k0 n0 : Nat} {Q : State → Prop} {b L : Nat} {xs : Nat → Int32} (hl9 : l.stackTraces = false) (X : Cx g p l room_1 s m args meth c cL_law 9 RL wsL_law) (hX : va_X b L xs s s.heap) (hbl : b < s.heap.size) (hbA : ¬ gA g b) (hL : L ≤ 2560) (t : Nat) (ht : 5 * t + 5 ≤ L) {σ : St} (hN : Nx σ) (hk9 : k0 + 5 ≤ 601024) (hn9 : n0 + 30 ≤ 7293034) (kk : ∀ u, Nx u → V g p l e room_1 s m args below meth c 9 (k0 + 5) (n0 + 30) Q u 2387 (lvL g b t) []) : V g p l e room_1 s m args below meth c 9 k0 n0 Q σ 1170 (lvL g b t) [] := by
  obtain ⟨n, ty, R, D, h, hU⟩ := id hN
  refine V_lv (lv' := [(0, .ref b), (1, .ref (ga g (0))), (2, .ref (ga g (89))), (3, .ref (ga g (110))), (4, .ref (ga g (111))), (5, .int (iN (5 * (t : Int))))]) rfl ?_
  refine V_aload_n X 1 rfl dL_law_1170 rfl ?_
  refine V_aload_n X 0 rfl dL_law_1171 rfl ?_
  refine V_iload X 5 rfl dL_law_1172 ?_
  refine V_iconst X dL_law_1174 ?_
  refine V_iadd X dL_law_1175 ?_
  refine V_sld X hX hbl hbA (5 * t + 1) (by omega) (by omega) (by omega) dL_law_1176 ?_
  refine V_aload_n X 3 rfl dL_law_1177 rfl ?_
  refine V_callS_Iw X (na := 3) (m_L_beats g l hl9 σ h.1 ((xs (5 * t + 1)).toInt) (R32_toI _) n h.LB) gL_law_L_beats rfl rfl rfl (by decide +kernel) ⟨Nat.le_of_ble_eq_true rfl, Nat.le_of_ble_eq_true rfl⟩ rfl rfl (Nat.le_of_ble_eq_true rfl) ⟨by show k0 + 2 ≤ 601024; omega, by show n0 + 12 ≤ 7293034; omega⟩ dL_law_1178 (fun E u hp => hp.elim) (fun z u zr hz => ?_)
  obtain ⟨f, hq⟩ := q_beats ((xs (5 * t + 1)).toInt) h hU  hz
  refine V_istore X [(6, .int (iN (z))), (0, .ref b), (1, .ref (ga g (0))), (2, .ref (ga g (89))), (3, .ref (ga g (110))), (4, .ref (ga g (111))), (5, .int (iN (5 * (t : Int))))] dL_law_1181 (by decide) rfl ?_
  refine V_aload_n X 3 rfl dL_law_1183 rfl ?_
  refine V_aload_n X 1 rfl dL_law_1184 rfl ?_
  refine V_iload X 6 rfl dL_law_1185 ?_
  refine V_iconst X dL_law_1187 ?_
  refine V_iadd X dL_law_1188 ?_
  refine V_sld X hX hbl hbA (5 * t + 1) (by omega) (by omega) (by omega) dL_law_1189 ?_
  refine V_callV_I X (na := 1) (ci := 7) (b0 := 89) (by decide) (rfl) (by decide) rfl (m_X7_beats g l hl9 u f.2 n (f.MB h.MB) ((xs (5 * t + 1)).toInt) (R32_toI _)) gL_law_X7_beats rfl rfl rfl (by decide +kernel) ⟨Nat.le_of_ble_eq_true rfl, Nat.le_of_ble_eq_true rfl⟩ rfl rfl (Nat.le_of_ble_eq_true rfl) ⟨by show k0 + 2 + 0 ≤ 601024; omega, by show n0 + 12 + 0 ≤ 7293034; omega⟩ dL_law_1190 (fun b9 y9 br hy => ?_)
  obtain ⟨e1, e2, e3⟩ := hq b9 y9 hy
  refine V_istore X [(7, .int (iN (b9))), (6, .int (iN (z))), (0, .ref b), (1, .ref (ga g (0))), (2, .ref (ga g (89))), (3, .ref (ga g (110))), (4, .ref (ga g (111))), (5, .int (iN (5 * (t : Int))))] dL_law_1193 (by decide) rfl ?_
  refine V_aload_n X 4 rfl dL_law_1195 rfl ?_
  refine V_callV_I X (na := 0) (ci := 7) (b0 := 89) (by decide) (rfl) (by decide) rfl (m_X7_thrown g l hl9 y9 e3.rg) gL_law_X7_thrown rfl rfl rfl (by decide +kernel) ⟨Nat.le_of_ble_eq_true rfl, Nat.le_of_ble_eq_true rfl⟩ rfl rfl (Nat.le_of_ble_eq_true rfl) ⟨by show k0 + 2 + 0 + 0 ≤ 601024; omega, by show n0 + 12 + 0 + 0 ≤ 7293034; omega⟩ dL_law_1196 (fun z3 u3 z3r h3 => ?_)
  obtain ⟨h3a, h3b⟩ := h3
  have h3b := h3b.symm
  subst h3b
  refine V_iload X 1 rfl dL_law_1199 ?_
  refine V_icmp_eq X 1206 z3r zr dL_law_1201 (by decide) (fun _ => ?_) (fun h9 => absurd (h3a.trans e1) h9)
  refine V_iload X 1 rfl dL_law_1206 ?_
  refine V_if_ne X 1230 zr dL_law_1208 (by decide) (fun hz9 => ?_) (fun hz9 => ?_)
  · skip
    refine V_goto X 2387 dL_law_1230 (by decide) ?_
    refine V_sub (lv' := [(0, .ref b), (1, .ref (ga g (0))), (2, .ref (ga g (89))), (3, .ref (ga g (110))), (4, .ref (ga g (111))), (5, .int (iN (5 * (t : Int))))]) [2, 3, 4, 5, 6, 7] rfl ?_
    exact V_widen (by omega) (by omega) (kk _ e3)
  · skip
    obtain ⟨e4, e5⟩ := e2 hz9
    rcases e5 with e5 | e5
    · skip
      refine V_aload_n X 5 rfl dL_law_1211 rfl ?_
      refine V_iconst X dL_law_1212 ?_
      refine V_laload X dL_law_1213 ?_
      refine V_topl (b := 0) (e4.trans e5) ?_
      refine V_iload X 0 rfl dL_law_1214 ?_
      refine V_if_eq X 1223 br dL_law_1216 (by decide) (fun _ => ?_) (fun h9 => absurd h9 (by omega))
      refine V_lconst X (z := 0) (by decide) dL_law_1223 ?_
      refine V_lcmpE X dL_law_1224 ?_
      refine V_if_eq X 1230 ⟨by decide, by decide⟩ dL_law_1225 (by decide) (fun _ => ?_) (fun h9 => absurd h9 (by decide))
      refine V_goto X 2387 dL_law_1230 (by decide) ?_
      refine V_sub (lv' := [(0, .ref b), (1, .ref (ga g (0))), (2, .ref (ga g (89))), (3, .ref (ga g (110))), (4, .ref (ga g (111))), (5, .int (iN (5 * (t : Int))))]) [2, 3, 4, 5, 6, 7] rfl ?_
      exact V_widen (by omega) (by omega) (kk _ e3)
    · skip
      refine V_aload_n X 5 rfl dL_law_1211 rfl ?_
      refine V_iconst X dL_law_1212 ?_
      refine V_laload X dL_law_1213 ?_
      refine V_topl (b := 1) (e4.trans e5) ?_
      refine V_iload X 0 rfl dL_law_1214 ?_
      refine V_if_eq X 1223 br dL_law_1216 (by decide) (fun h9 => absurd h9 (by omega)) (fun _ => ?_)
      refine V_lconst X (z := 1) (by decide) dL_law_1219 ?_
      refine V_goto X 1224 dL_law_1220 (by decide) ?_
      refine V_lcmpE X dL_law_1224 ?_
      refine V_if_eq X 1230 ⟨by decide, by decide⟩ dL_law_1225 (by decide) (fun _ => ?_) (fun h9 => absurd h9 (by decide))
      refine V_goto X 2387 dL_law_1230 (by decide) ?_
      refine V_sub (lv' := [(0, .ref b), (1, .ref (ga g (0))), (2, .ref (ga g (89))), (3, .ref (ga g (110))), (4, .ref (ga g (111))), (5, .int (iN (5 * (t : Int))))]) [2, 3, 4, 5, 6, 7] rfl ?_
      exact V_widen (by omega) (by omega) (kk _ e3)
set_option maxRecDepth 100000 in
set_option maxHeartbeats 4000000 in
theorem lc_16 (g : Geo) {p : Program} (l : Launch) {e : Env} {s : State} {m : MethodId} {args : Array Value} {below : List Frame} {meth : Method} {c : Code} {k0 n0 : Nat} {Q : State → Prop} {b L : Nat} {xs : Nat → Int32} (hl9 : l.stackTraces = false) (X : Cx g p l room_1 s m args meth c cL_law 9 RL wsL_law) (hX : va_X b L xs s s.heap) (hbl : b < s.heap.size) (hbA : ¬ gA g b) (hL : L ≤ 2560) (t : Nat) (ht : 5 * t + 5 ≤ L) {σ : St} (hN : Nx σ) (hk9 : k0 + 5 ≤ 601024) (hn9 : n0 + 30 ≤ 7293034) (kk : ∀ u, Nx u → V g p l e room_1 s m args below meth c 9 (k0 + 5) (n0 + 30) Q u 2387 (lvL g b t) []) : V g p l e room_1 s m args below meth c 9 k0 n0 Q σ 1233 (lvL g b t) [] := by
  obtain ⟨n, ty, R, D, h, hU⟩ := id hN
  refine V_lv (lv' := [(0, .ref b), (1, .ref (ga g (0))), (2, .ref (ga g (89))), (3, .ref (ga g (110))), (4, .ref (ga g (111))), (5, .int (iN (5 * (t : Int))))]) rfl ?_
  refine V_aload_n X 1 rfl dL_law_1233 rfl ?_
  refine V_aload_n X 0 rfl dL_law_1234 rfl ?_
  refine V_iload X 5 rfl dL_law_1235 ?_
  refine V_iconst X dL_law_1237 ?_
  refine V_iadd X dL_law_1238 ?_
  refine V_sld X hX hbl hbA (5 * t + 1) (by omega) (by omega) (by omega) dL_law_1239 ?_
  refine V_aload_n X 3 rfl dL_law_1240 rfl ?_
  refine V_callS_Iw X (na := 3) (m_L_least g l hl9 σ h.1 ((xs (5 * t + 1)).toInt) (R32_toI _) h.c1.2 n h.LB) gL_law_L_least rfl rfl rfl (by decide +kernel) ⟨Nat.le_of_ble_eq_true rfl, Nat.le_of_ble_eq_true rfl⟩ rfl rfl (Nat.le_of_ble_eq_true rfl) ⟨by show k0 + 2 ≤ 601024; omega, by show n0 + 12 ≤ 7293034; omega⟩ dL_law_1241 (fun E u hp => hp.elim) (fun z u zr hz => ?_)
  obtain ⟨f, hq⟩ := q_least ((xs (5 * t + 1)).toInt) h hU  hz
  refine V_istore X [(6, .int (iN (z))), (0, .ref b), (1, .ref (ga g (0))), (2, .ref (ga g (89))), (3, .ref (ga g (110))), (4, .ref (ga g (111))), (5, .int (iN (5 * (t : Int))))] dL_law_1244 (by decide) rfl ?_
  refine V_aload_n X 3 rfl dL_law_1246 rfl ?_
  refine V_aload_n X 1 rfl dL_law_1247 rfl ?_
  refine V_iload X 6 rfl dL_law_1248 ?_
  refine V_iconst X dL_law_1250 ?_
  refine V_iadd X dL_law_1251 ?_
  refine V_sld X hX hbl hbA (5 * t + 1) (by omega) (by omega) (by omega) dL_law_1252 ?_
  refine V_callV_I X (na := 1) (ci := 7) (b0 := 89) (by decide) (rfl) (by decide) rfl (m_X7_least g l hl9 u f.2 (h.f1 f) n (f.MB h.MB) ((xs (5 * t + 1)).toInt) (R32_toI _)) gL_law_X7_least rfl rfl rfl (by decide +kernel) ⟨Nat.le_of_ble_eq_true rfl, Nat.le_of_ble_eq_true rfl⟩ rfl rfl (Nat.le_of_ble_eq_true rfl) ⟨by show k0 + 2 + 0 ≤ 601024; omega, by show n0 + 12 + 0 ≤ 7293034; omega⟩ dL_law_1253 (fun b9 y9 br hy => ?_)
  obtain ⟨e1, e2, e3⟩ := hq b9 y9 hy
  refine V_istore X [(7, .int (iN (b9))), (6, .int (iN (z))), (0, .ref b), (1, .ref (ga g (0))), (2, .ref (ga g (89))), (3, .ref (ga g (110))), (4, .ref (ga g (111))), (5, .int (iN (5 * (t : Int))))] dL_law_1256 (by decide) rfl ?_
  refine V_aload_n X 4 rfl dL_law_1258 rfl ?_
  refine V_callV_I X (na := 0) (ci := 7) (b0 := 89) (by decide) (rfl) (by decide) rfl (m_X7_thrown g l hl9 y9 e3.rg) gL_law_X7_thrown rfl rfl rfl (by decide +kernel) ⟨Nat.le_of_ble_eq_true rfl, Nat.le_of_ble_eq_true rfl⟩ rfl rfl (Nat.le_of_ble_eq_true rfl) ⟨by show k0 + 2 + 0 + 0 ≤ 601024; omega, by show n0 + 12 + 0 + 0 ≤ 7293034; omega⟩ dL_law_1259 (fun z3 u3 z3r h3 => ?_)
  obtain ⟨h3a, h3b⟩ := h3
  have h3b := h3b.symm
  subst h3b
  refine V_iload X 1 rfl dL_law_1262 ?_
  refine V_icmp_eq X 1269 z3r zr dL_law_1264 (by decide) (fun _ => ?_) (fun h9 => absurd (h3a.trans e1) h9)
  refine V_iload X 1 rfl dL_law_1269 ?_
  refine V_if_ne X 1286 zr dL_law_1271 (by decide) (fun hz9 => ?_) (fun hz9 => ?_)
  · skip
    refine V_goto X 2387 dL_law_1286 (by decide) ?_
    refine V_sub (lv' := [(0, .ref b), (1, .ref (ga g (0))), (2, .ref (ga g (89))), (3, .ref (ga g (110))), (4, .ref (ga g (111))), (5, .int (iN (5 * (t : Int))))]) [2, 3, 4, 5, 6, 7] rfl ?_
    exact V_widen (by omega) (by omega) (kk _ e3)
  · skip
    refine V_aload_n X 5 rfl dL_law_1274 rfl ?_
    refine V_iconst X dL_law_1275 ?_
    refine V_laload X dL_law_1276 ?_
    refine V_topl (b := b9) (e2 hz9) ?_
    refine V_iload X 0 rfl dL_law_1277 ?_
    refine V_i2l X br dL_law_1279 ?_
    refine V_lcmpE X dL_law_1280 ?_
    refine V_if_eq X 1286 ⟨by decide, by decide⟩ dL_law_1281 (by decide) (fun _ => ?_) (fun h9 => absurd h9 (by decide))
    refine V_goto X 2387 dL_law_1286 (by decide) ?_
    refine V_sub (lv' := [(0, .ref b), (1, .ref (ga g (0))), (2, .ref (ga g (89))), (3, .ref (ga g (110))), (4, .ref (ga g (111))), (5, .int (iN (5 * (t : Int))))]) [2, 3, 4, 5, 6, 7] rfl ?_
    exact V_widen (by omega) (by omega) (kk _ e3)
set_option maxRecDepth 100000 in
set_option maxHeartbeats 4000000 in
theorem lc_17 (g : Geo) {p : Program} (l : Launch) {e : Env} {s : State} {m : MethodId} {args : Array Value} {below : List Frame} {meth : Method} {c : Code} {k0 n0 : Nat} {Q : State → Prop} {b L : Nat} {xs : Nat → Int32} (hl9 : l.stackTraces = false) (X : Cx g p l room_1 s m args meth c cL_law 9 RL wsL_law) (hX : va_X b L xs s s.heap) (hbl : b < s.heap.size) (hbA : ¬ gA g b) (hL : L ≤ 2560) (t : Nat) (ht : 5 * t + 5 ≤ L) {σ : St} (hN : Nx σ) (hk9 : k0 + 5 ≤ 601024) (hn9 : n0 + 30 ≤ 7293034) (kk : ∀ u, Nx u → V g p l e room_1 s m args below meth c 9 (k0 + 5) (n0 + 30) Q u 2387 (lvL g b t) []) : V g p l e room_1 s m args below meth c 9 k0 n0 Q σ 1289 (lvL g b t) [] := by
  obtain ⟨n, ty, R, D, h, hU⟩ := id hN
  refine V_lv (lv' := [(0, .ref b), (1, .ref (ga g (0))), (2, .ref (ga g (89))), (3, .ref (ga g (110))), (4, .ref (ga g (111))), (5, .int (iN (5 * (t : Int))))]) rfl ?_
  refine V_aload_n X 1 rfl dL_law_1289 rfl ?_
  refine V_aload_n X 0 rfl dL_law_1290 rfl ?_
  refine V_iload X 5 rfl dL_law_1291 ?_
  refine V_iconst X dL_law_1293 ?_
  refine V_iadd X dL_law_1294 ?_
  refine V_sld X hX hbl hbA (5 * t + 1) (by omega) (by omega) (by omega) dL_law_1295 ?_
  refine V_aload_n X 3 rfl dL_law_1296 rfl ?_
  refine V_callS_Iw X (na := 3) (m_L_base g l hl9 σ h.1 ((xs (5 * t + 1)).toInt) (R32_toI _) h.b30) gL_law_L_base rfl rfl rfl (by decide +kernel) ⟨Nat.le_of_ble_eq_true rfl, Nat.le_of_ble_eq_true rfl⟩ rfl rfl (Nat.le_of_ble_eq_true rfl) ⟨by show k0 + 2 ≤ 601024; omega, by show n0 + 12 ≤ 7293034; omega⟩ dL_law_1297 (fun E u hp => hp.elim) (fun z u zr hz => ?_)
  obtain ⟨f, hq⟩ := q_base ((xs (5 * t + 1)).toInt) h hU  hz
  refine V_istore X [(6, .int (iN (z))), (0, .ref b), (1, .ref (ga g (0))), (2, .ref (ga g (89))), (3, .ref (ga g (110))), (4, .ref (ga g (111))), (5, .int (iN (5 * (t : Int))))] dL_law_1300 (by decide) rfl ?_
  refine V_aload_n X 3 rfl dL_law_1302 rfl ?_
  refine V_aload_n X 1 rfl dL_law_1303 rfl ?_
  refine V_iload X 6 rfl dL_law_1304 ?_
  refine V_iconst X dL_law_1306 ?_
  refine V_iadd X dL_law_1307 ?_
  refine V_sld X hX hbl hbA (5 * t + 1) (by omega) (by omega) (by omega) dL_law_1308 ?_
  refine V_callV_I X (na := 1) (ci := 7) (b0 := 89) (by decide) (rfl) (by decide) rfl (m_X7_base g l hl9 u f.2 n (f.MB h.MB) ((xs (5 * t + 1)).toInt) (R32_toI _)) gL_law_X7_base rfl rfl rfl (by decide +kernel) ⟨Nat.le_of_ble_eq_true rfl, Nat.le_of_ble_eq_true rfl⟩ rfl rfl (Nat.le_of_ble_eq_true rfl) ⟨by show k0 + 2 + 0 ≤ 601024; omega, by show n0 + 12 + 0 ≤ 7293034; omega⟩ dL_law_1309 (fun b9 y9 br hy => ?_)
  obtain ⟨e1, e2, e3⟩ := hq b9 y9 hy
  refine V_istore X [(7, .int (iN (b9))), (6, .int (iN (z))), (0, .ref b), (1, .ref (ga g (0))), (2, .ref (ga g (89))), (3, .ref (ga g (110))), (4, .ref (ga g (111))), (5, .int (iN (5 * (t : Int))))] dL_law_1312 (by decide) rfl ?_
  refine V_aload_n X 4 rfl dL_law_1314 rfl ?_
  refine V_callV_I X (na := 0) (ci := 7) (b0 := 89) (by decide) (rfl) (by decide) rfl (m_X7_thrown g l hl9 y9 e3.rg) gL_law_X7_thrown rfl rfl rfl (by decide +kernel) ⟨Nat.le_of_ble_eq_true rfl, Nat.le_of_ble_eq_true rfl⟩ rfl rfl (Nat.le_of_ble_eq_true rfl) ⟨by show k0 + 2 + 0 + 0 ≤ 601024; omega, by show n0 + 12 + 0 + 0 ≤ 7293034; omega⟩ dL_law_1315 (fun z3 u3 z3r h3 => ?_)
  obtain ⟨h3a, h3b⟩ := h3
  have h3b := h3b.symm
  subst h3b
  refine V_iload X 1 rfl dL_law_1318 ?_
  refine V_icmp_eq X 1325 z3r zr dL_law_1320 (by decide) (fun _ => ?_) (fun h9 => absurd (h3a.trans e1) h9)
  refine V_iload X 1 rfl dL_law_1325 ?_
  refine V_if_ne X 1342 zr dL_law_1327 (by decide) (fun hz9 => ?_) (fun hz9 => ?_)
  · skip
    refine V_goto X 2387 dL_law_1342 (by decide) ?_
    refine V_sub (lv' := [(0, .ref b), (1, .ref (ga g (0))), (2, .ref (ga g (89))), (3, .ref (ga g (110))), (4, .ref (ga g (111))), (5, .int (iN (5 * (t : Int))))]) [2, 3, 4, 5, 6, 7] rfl ?_
    exact V_widen (by omega) (by omega) (kk _ e3)
  · skip
    refine V_aload_n X 5 rfl dL_law_1330 rfl ?_
    refine V_iconst X dL_law_1331 ?_
    refine V_laload X dL_law_1332 ?_
    refine V_topl (b := b9) (e2 hz9) ?_
    refine V_iload X 0 rfl dL_law_1333 ?_
    refine V_i2l X br dL_law_1335 ?_
    refine V_lcmpE X dL_law_1336 ?_
    refine V_if_eq X 1342 ⟨by decide, by decide⟩ dL_law_1337 (by decide) (fun _ => ?_) (fun h9 => absurd h9 (by decide))
    refine V_goto X 2387 dL_law_1342 (by decide) ?_
    refine V_sub (lv' := [(0, .ref b), (1, .ref (ga g (0))), (2, .ref (ga g (89))), (3, .ref (ga g (110))), (4, .ref (ga g (111))), (5, .int (iN (5 * (t : Int))))]) [2, 3, 4, 5, 6, 7] rfl ?_
    exact V_widen (by omega) (by omega) (kk _ e3)
set_option maxRecDepth 100000 in
set_option maxHeartbeats 4000000 in
theorem lc_18 (g : Geo) {p : Program} (l : Launch) {e : Env} {s : State} {m : MethodId} {args : Array Value} {below : List Frame} {meth : Method} {c : Code} {k0 n0 : Nat} {Q : State → Prop} {b L : Nat} {xs : Nat → Int32} (hl9 : l.stackTraces = false) (X : Cx g p l room_1 s m args meth c cL_law 9 RL wsL_law) (hX : va_X b L xs s s.heap) (hbl : b < s.heap.size) (hbA : ¬ gA g b) (hL : L ≤ 2560) (t : Nat) (ht : 5 * t + 5 ≤ L) {σ : St} (hN : Nx σ) (hk9 : k0 + 5 ≤ 601024) (hn9 : n0 + 30 ≤ 7293034) (kk : ∀ u, Nx u → V g p l e room_1 s m args below meth c 9 (k0 + 5) (n0 + 30) Q u 2387 (lvL g b t) []) : V g p l e room_1 s m args below meth c 9 k0 n0 Q σ 1345 (lvL g b t) [] := by
  obtain ⟨n, ty, R, D, h, hU⟩ := id hN
  refine V_lv (lv' := [(0, .ref b), (1, .ref (ga g (0))), (2, .ref (ga g (89))), (3, .ref (ga g (110))), (4, .ref (ga g (111))), (5, .int (iN (5 * (t : Int))))]) rfl ?_
  refine V_aload_n X 1 rfl dL_law_1345 rfl ?_
  refine V_aload_n X 0 rfl dL_law_1346 rfl ?_
  refine V_iload X 5 rfl dL_law_1347 ?_
  refine V_iconst X dL_law_1349 ?_
  refine V_iadd X dL_law_1350 ?_
  refine V_sld X hX hbl hbA (5 * t + 1) (by omega) (by omega) (by omega) dL_law_1351 ?_
  refine V_aload_n X 3 rfl dL_law_1352 rfl ?_
  refine V_callS_Iw X (na := 3) (m_L_depth g l hl9 σ h.1 ((xs (5 * t + 1)).toInt) (R32_toI _) h.b30) gL_law_L_depth rfl rfl rfl (by decide +kernel) ⟨Nat.le_of_ble_eq_true rfl, Nat.le_of_ble_eq_true rfl⟩ rfl rfl (Nat.le_of_ble_eq_true rfl) ⟨by show k0 + 1 ≤ 601024; omega, by show n0 + 6 ≤ 7293034; omega⟩ dL_law_1353 (fun E u hp => hp.elim) (fun z u zr hz => ?_)
  obtain ⟨f, hq⟩ := q_depth ((xs (5 * t + 1)).toInt) h hU  hz
  refine V_istore X [(6, .int (iN (z))), (0, .ref b), (1, .ref (ga g (0))), (2, .ref (ga g (89))), (3, .ref (ga g (110))), (4, .ref (ga g (111))), (5, .int (iN (5 * (t : Int))))] dL_law_1356 (by decide) rfl ?_
  refine V_aload_n X 3 rfl dL_law_1358 rfl ?_
  refine V_aload_n X 1 rfl dL_law_1359 rfl ?_
  refine V_iload X 6 rfl dL_law_1360 ?_
  refine V_iconst X dL_law_1362 ?_
  refine V_iadd X dL_law_1363 ?_
  refine V_sld X hX hbl hbA (5 * t + 1) (by omega) (by omega) (by omega) dL_law_1364 ?_
  refine V_callV_I X (na := 1) (ci := 7) (b0 := 89) (by decide) (rfl) (by decide) rfl (m_X7_depth g l hl9 u f.2 n (f.MB h.MB) (dpR σ) (f.MD h.MD) ((xs (5 * t + 1)).toInt) (R32_toI _)) gL_law_X7_depth rfl rfl rfl (by decide +kernel) ⟨Nat.le_of_ble_eq_true rfl, Nat.le_of_ble_eq_true rfl⟩ rfl rfl (Nat.le_of_ble_eq_true rfl) ⟨by show k0 + 1 + 0 ≤ 601024; omega, by show n0 + 6 + 0 ≤ 7293034; omega⟩ dL_law_1365 (fun b9 y9 br hy => ?_)
  obtain ⟨e1, e2, e3⟩ := hq b9 y9 hy
  refine V_istore X [(7, .int (iN (b9))), (6, .int (iN (z))), (0, .ref b), (1, .ref (ga g (0))), (2, .ref (ga g (89))), (3, .ref (ga g (110))), (4, .ref (ga g (111))), (5, .int (iN (5 * (t : Int))))] dL_law_1368 (by decide) rfl ?_
  refine V_aload_n X 4 rfl dL_law_1370 rfl ?_
  refine V_callV_I X (na := 0) (ci := 7) (b0 := 89) (by decide) (rfl) (by decide) rfl (m_X7_thrown g l hl9 y9 e3.rg) gL_law_X7_thrown rfl rfl rfl (by decide +kernel) ⟨Nat.le_of_ble_eq_true rfl, Nat.le_of_ble_eq_true rfl⟩ rfl rfl (Nat.le_of_ble_eq_true rfl) ⟨by show k0 + 1 + 0 + 0 ≤ 601024; omega, by show n0 + 6 + 0 + 0 ≤ 7293034; omega⟩ dL_law_1371 (fun z3 u3 z3r h3 => ?_)
  obtain ⟨h3a, h3b⟩ := h3
  have h3b := h3b.symm
  subst h3b
  refine V_iload X 1 rfl dL_law_1374 ?_
  refine V_icmp_eq X 1381 z3r zr dL_law_1376 (by decide) (fun _ => ?_) (fun h9 => absurd (h3a.trans e1) h9)
  refine V_iload X 1 rfl dL_law_1381 ?_
  refine V_if_ne X 1398 zr dL_law_1383 (by decide) (fun hz9 => ?_) (fun hz9 => ?_)
  · skip
    refine V_goto X 2387 dL_law_1398 (by decide) ?_
    refine V_sub (lv' := [(0, .ref b), (1, .ref (ga g (0))), (2, .ref (ga g (89))), (3, .ref (ga g (110))), (4, .ref (ga g (111))), (5, .int (iN (5 * (t : Int))))]) [2, 3, 4, 5, 6, 7] rfl ?_
    exact V_widen (by omega) (by omega) (kk _ e3)
  · skip
    refine V_aload_n X 5 rfl dL_law_1386 rfl ?_
    refine V_iconst X dL_law_1387 ?_
    refine V_laload X dL_law_1388 ?_
    refine V_topl (b := b9) (e2 hz9) ?_
    refine V_iload X 0 rfl dL_law_1389 ?_
    refine V_i2l X br dL_law_1391 ?_
    refine V_lcmpE X dL_law_1392 ?_
    refine V_if_eq X 1398 ⟨by decide, by decide⟩ dL_law_1393 (by decide) (fun _ => ?_) (fun h9 => absurd h9 (by decide))
    refine V_goto X 2387 dL_law_1398 (by decide) ?_
    refine V_sub (lv' := [(0, .ref b), (1, .ref (ga g (0))), (2, .ref (ga g (89))), (3, .ref (ga g (110))), (4, .ref (ga g (111))), (5, .int (iN (5 * (t : Int))))]) [2, 3, 4, 5, 6, 7] rfl ?_
    exact V_widen (by omega) (by omega) (kk _ e3)
set_option maxRecDepth 100000 in
set_option maxHeartbeats 4000000 in
theorem lc_19 (g : Geo) {p : Program} (l : Launch) {e : Env} {s : State} {m : MethodId} {args : Array Value} {below : List Frame} {meth : Method} {c : Code} {k0 n0 : Nat} {Q : State → Prop} {b L : Nat} {xs : Nat → Int32} (hl9 : l.stackTraces = false) (X : Cx g p l room_1 s m args meth c cL_law 9 RL wsL_law) (hX : va_X b L xs s s.heap) (hbl : b < s.heap.size) (hbA : ¬ gA g b) (hL : L ≤ 2560) (t : Nat) (ht : 5 * t + 5 ≤ L) {σ : St} (hN : Nx σ) (hk9 : k0 + 5 ≤ 601024) (hn9 : n0 + 30 ≤ 7293034) (kk : ∀ u, Nx u → V g p l e room_1 s m args below meth c 9 (k0 + 5) (n0 + 30) Q u 2387 (lvL g b t) []) : V g p l e room_1 s m args below meth c 9 k0 n0 Q σ 1401 (lvL g b t) [] := by
  obtain ⟨n, ty, R, D, h, hU⟩ := id hN
  refine V_lv (lv' := [(0, .ref b), (1, .ref (ga g (0))), (2, .ref (ga g (89))), (3, .ref (ga g (110))), (4, .ref (ga g (111))), (5, .int (iN (5 * (t : Int))))]) rfl ?_
  refine V_aload_n X 1 rfl dL_law_1401 rfl ?_
  refine V_aload_n X 0 rfl dL_law_1402 rfl ?_
  refine V_iload X 5 rfl dL_law_1403 ?_
  refine V_iconst X dL_law_1405 ?_
  refine V_iadd X dL_law_1406 ?_
  refine V_sld X hX hbl hbA (5 * t + 1) (by omega) (by omega) (by omega) dL_law_1407 ?_
  refine V_aload_n X 3 rfl dL_law_1408 rfl ?_
  refine V_callS_Iw X (na := 3) (m_L_parts g l hl9 σ h.1 ((xs (5 * t + 1)).toInt) (R32_toI _) h.b30) gL_law_L_parts rfl rfl rfl (by decide +kernel) ⟨Nat.le_of_ble_eq_true rfl, Nat.le_of_ble_eq_true rfl⟩ rfl rfl (Nat.le_of_ble_eq_true rfl) ⟨by show k0 + 1 ≤ 601024; omega, by show n0 + 6 ≤ 7293034; omega⟩ dL_law_1409 (fun E u hp => hp.elim) (fun z u zr hz => ?_)
  obtain ⟨f, hq⟩ := q_parts ((xs (5 * t + 1)).toInt) h hU  hz
  refine V_istore X [(6, .int (iN (z))), (0, .ref b), (1, .ref (ga g (0))), (2, .ref (ga g (89))), (3, .ref (ga g (110))), (4, .ref (ga g (111))), (5, .int (iN (5 * (t : Int))))] dL_law_1412 (by decide) rfl ?_
  refine V_aload_n X 3 rfl dL_law_1414 rfl ?_
  refine V_aload_n X 1 rfl dL_law_1415 rfl ?_
  refine V_iload X 6 rfl dL_law_1416 ?_
  refine V_iconst X dL_law_1418 ?_
  refine V_iadd X dL_law_1419 ?_
  refine V_sld X hX hbl hbA (5 * t + 1) (by omega) (by omega) (by omega) dL_law_1420 ?_
  refine V_callV_I X (na := 1) (ci := 7) (b0 := 89) (by decide) (rfl) (by decide) rfl (m_X7_parts g l hl9 u f.2 n (f.MB h.MB) ((xs (5 * t + 1)).toInt) (R32_toI _)) gL_law_X7_parts rfl rfl rfl (by decide +kernel) ⟨Nat.le_of_ble_eq_true rfl, Nat.le_of_ble_eq_true rfl⟩ rfl rfl (Nat.le_of_ble_eq_true rfl) ⟨by show k0 + 1 + 0 ≤ 601024; omega, by show n0 + 6 + 0 ≤ 7293034; omega⟩ dL_law_1421 (fun b9 y9 br hy => ?_)
  obtain ⟨e1, e2, e3⟩ := hq b9 y9 hy
  refine V_istore X [(7, .int (iN (b9))), (6, .int (iN (z))), (0, .ref b), (1, .ref (ga g (0))), (2, .ref (ga g (89))), (3, .ref (ga g (110))), (4, .ref (ga g (111))), (5, .int (iN (5 * (t : Int))))] dL_law_1424 (by decide) rfl ?_
  refine V_aload_n X 4 rfl dL_law_1426 rfl ?_
  refine V_callV_I X (na := 0) (ci := 7) (b0 := 89) (by decide) (rfl) (by decide) rfl (m_X7_thrown g l hl9 y9 e3.rg) gL_law_X7_thrown rfl rfl rfl (by decide +kernel) ⟨Nat.le_of_ble_eq_true rfl, Nat.le_of_ble_eq_true rfl⟩ rfl rfl (Nat.le_of_ble_eq_true rfl) ⟨by show k0 + 1 + 0 + 0 ≤ 601024; omega, by show n0 + 6 + 0 + 0 ≤ 7293034; omega⟩ dL_law_1427 (fun z3 u3 z3r h3 => ?_)
  obtain ⟨h3a, h3b⟩ := h3
  have h3b := h3b.symm
  subst h3b
  refine V_iload X 1 rfl dL_law_1430 ?_
  refine V_icmp_eq X 1437 z3r zr dL_law_1432 (by decide) (fun _ => ?_) (fun h9 => absurd (h3a.trans e1) h9)
  refine V_iload X 1 rfl dL_law_1437 ?_
  refine V_if_ne X 1454 zr dL_law_1439 (by decide) (fun hz9 => ?_) (fun hz9 => ?_)
  · skip
    refine V_goto X 2387 dL_law_1454 (by decide) ?_
    refine V_sub (lv' := [(0, .ref b), (1, .ref (ga g (0))), (2, .ref (ga g (89))), (3, .ref (ga g (110))), (4, .ref (ga g (111))), (5, .int (iN (5 * (t : Int))))]) [2, 3, 4, 5, 6, 7] rfl ?_
    exact V_widen (by omega) (by omega) (kk _ e3)
  · skip
    refine V_aload_n X 5 rfl dL_law_1442 rfl ?_
    refine V_iconst X dL_law_1443 ?_
    refine V_laload X dL_law_1444 ?_
    refine V_topl (b := b9) (e2 hz9) ?_
    refine V_iload X 0 rfl dL_law_1445 ?_
    refine V_i2l X br dL_law_1447 ?_
    refine V_lcmpE X dL_law_1448 ?_
    refine V_if_eq X 1454 ⟨by decide, by decide⟩ dL_law_1449 (by decide) (fun _ => ?_) (fun h9 => absurd h9 (by decide))
    refine V_goto X 2387 dL_law_1454 (by decide) ?_
    refine V_sub (lv' := [(0, .ref b), (1, .ref (ga g (0))), (2, .ref (ga g (89))), (3, .ref (ga g (110))), (4, .ref (ga g (111))), (5, .int (iN (5 * (t : Int))))]) [2, 3, 4, 5, 6, 7] rfl ?_
    exact V_widen (by omega) (by omega) (kk _ e3)
