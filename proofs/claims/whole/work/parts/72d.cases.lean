/-! ===== the law, case by case ===== -/
set_option maxRecDepth 100000 in
set_option maxHeartbeats 4000000 in
theorem lc_30 (g : Geo) {p : Program} (l : Launch) {e : Env} {s : State} {m : MethodId} {args : Array Value} {below : List Frame} {meth : Method} {c : Code} {k0 n0 : Nat} {Q : State → Prop} {b L : Nat} {xs : Nat → Int32} (hl9 : l.stackTraces = false) (X : Cx g p l room_1 s m args meth c cL_law 9 RL wsL_law) (hX : va_X b L xs s s.heap) (hbl : b < s.heap.size) (hbA : ¬ gA g b) (hL : L ≤ 2560) (t : Nat) (ht : 5 * t + 5 ≤ L) {σ : St} (hN : Nx σ) (hk9 : k0 + 5 ≤ 601024) (hn9 : n0 + 30 ≤ 7293034) (kk : ∀ u, Nx u → V g p l e room_1 s m args below meth c 9 (k0 + 5) (n0 + 30) Q u 2387 (lvL g b t) []) : V g p l e room_1 s m args below meth c 9 k0 n0 Q σ 2005 (lvL g b t) [] := by
  obtain ⟨n, ty, R, D, h, hU⟩ := id hN
  refine V_lv (lv' := [(0, .ref b), (1, .ref (ga g (0))), (2, .ref (ga g (89))), (3, .ref (ga g (110))), (4, .ref (ga g (111))), (5, .int (iN (5 * (t : Int))))]) rfl ?_
  refine V_aload_n X 1 rfl dL_law_2005 rfl ?_
  refine V_aload_n X 0 rfl dL_law_2006 rfl ?_
  refine V_iload X 5 rfl dL_law_2007 ?_
  refine V_iconst X dL_law_2009 ?_
  refine V_iadd X dL_law_2010 ?_
  refine V_sld X hX hbl hbA (5 * t + 1) (by omega) (by omega) (by omega) dL_law_2011 ?_
  refine V_aload_n X 3 rfl dL_law_2012 rfl ?_
  refine V_callS_Iw X (na := 3) (m_L_drop g l hl9 σ h.1 ((xs (5 * t + 1)).toInt) (R32_toI _)) gL_law_L_drop rfl rfl rfl (by decide +kernel) ⟨Nat.le_of_ble_eq_true rfl, Nat.le_of_ble_eq_true rfl⟩ rfl rfl (Nat.le_of_ble_eq_true rfl) ⟨by show k0 + 1 ≤ 601024; omega, by show n0 + 6 ≤ 7293034; omega⟩ dL_law_2013 (fun E u hp => hp.elim) (fun z u zr hz => ?_)
  obtain ⟨f, hq⟩ := q_drop ((xs (5 * t + 1)).toInt) h hU  hz
  refine V_istore X [(6, .int (iN (z))), (0, .ref b), (1, .ref (ga g (0))), (2, .ref (ga g (89))), (3, .ref (ga g (110))), (4, .ref (ga g (111))), (5, .int (iN (5 * (t : Int))))] dL_law_2016 (by decide) rfl ?_
  refine V_aload_n X 3 rfl dL_law_2018 rfl ?_
  refine V_aload_n X 1 rfl dL_law_2019 rfl ?_
  refine V_iload X 6 rfl dL_law_2020 ?_
  refine V_iconst X dL_law_2022 ?_
  refine V_iadd X dL_law_2023 ?_
  refine V_sld X hX hbl hbA (5 * t + 1) (by omega) (by omega) (by omega) dL_law_2024 ?_
  refine V_callV_I X (na := 1) (ci := 7) (b0 := 89) (by decide) (rfl) (by decide) rfl (m_X7_drop g l hl9 u f.2 ((xs (5 * t + 1)).toInt) (R32_toI _)) gL_law_X7_drop rfl rfl rfl (by decide +kernel) ⟨Nat.le_of_ble_eq_true rfl, Nat.le_of_ble_eq_true rfl⟩ rfl rfl (Nat.le_of_ble_eq_true rfl) ⟨by show k0 + 1 + 0 ≤ 601024; omega, by show n0 + 6 + 0 ≤ 7293034; omega⟩ dL_law_2025 (fun b9 y9 br hy => ?_)
  obtain ⟨e1, e2, e3⟩ := hq b9 y9 hy
  refine V_istore X [(7, .int (iN (b9))), (6, .int (iN (z))), (0, .ref b), (1, .ref (ga g (0))), (2, .ref (ga g (89))), (3, .ref (ga g (110))), (4, .ref (ga g (111))), (5, .int (iN (5 * (t : Int))))] dL_law_2028 (by decide) rfl ?_
  refine V_aload_n X 4 rfl dL_law_2030 rfl ?_
  refine V_callV_I X (na := 0) (ci := 7) (b0 := 89) (by decide) (rfl) (by decide) rfl (m_X7_thrown g l hl9 y9 e3.rg) gL_law_X7_thrown rfl rfl rfl (by decide +kernel) ⟨Nat.le_of_ble_eq_true rfl, Nat.le_of_ble_eq_true rfl⟩ rfl rfl (Nat.le_of_ble_eq_true rfl) ⟨by show k0 + 1 + 0 + 0 ≤ 601024; omega, by show n0 + 6 + 0 + 0 ≤ 7293034; omega⟩ dL_law_2031 (fun z3 u3 z3r h3 => ?_)
  obtain ⟨h3a, h3b⟩ := h3
  have h3b := h3b.symm
  subst h3b
  refine V_iload X 1 rfl dL_law_2034 ?_
  refine V_icmp_eq X 2041 z3r zr dL_law_2036 (by decide) (fun _ => ?_) (fun h9 => absurd (h3a.trans e1) h9)
  refine V_iload X 1 rfl dL_law_2041 ?_
  refine V_if_ne X 2058 zr dL_law_2043 (by decide) (fun hz9 => ?_) (fun hz9 => ?_)
  · skip
    refine V_goto X 2387 dL_law_2058 (by decide) ?_
    refine V_sub (lv' := [(0, .ref b), (1, .ref (ga g (0))), (2, .ref (ga g (89))), (3, .ref (ga g (110))), (4, .ref (ga g (111))), (5, .int (iN (5 * (t : Int))))]) [2, 3, 4, 5, 6, 7] rfl ?_
    exact V_widen (by omega) (by omega) (kk _ e3)
  · skip
    refine V_aload_n X 5 rfl dL_law_2046 rfl ?_
    refine V_iconst X dL_law_2047 ?_
    refine V_laload X dL_law_2048 ?_
    refine V_topl (b := b9) (e2 hz9) ?_
    refine V_iload X 0 rfl dL_law_2049 ?_
    refine V_i2l X br dL_law_2051 ?_
    refine V_lcmpE X dL_law_2052 ?_
    refine V_if_eq X 2058 ⟨by decide, by decide⟩ dL_law_2053 (by decide) (fun _ => ?_) (fun h9 => absurd h9 (by decide))
    refine V_goto X 2387 dL_law_2058 (by decide) ?_
    refine V_sub (lv' := [(0, .ref b), (1, .ref (ga g (0))), (2, .ref (ga g (89))), (3, .ref (ga g (110))), (4, .ref (ga g (111))), (5, .int (iN (5 * (t : Int))))]) [2, 3, 4, 5, 6, 7] rfl ?_
    exact V_widen (by omega) (by omega) (kk _ e3)
set_option maxRecDepth 100000 in
set_option maxHeartbeats 4000000 in
theorem lc_31 (g : Geo) {p : Program} (l : Launch) {e : Env} {s : State} {m : MethodId} {args : Array Value} {below : List Frame} {meth : Method} {c : Code} {k0 n0 : Nat} {Q : State → Prop} {b L : Nat} {xs : Nat → Int32} (hl9 : l.stackTraces = false) (X : Cx g p l room_1 s m args meth c cL_law 9 RL wsL_law) (hX : va_X b L xs s s.heap) (hbl : b < s.heap.size) (hbA : ¬ gA g b) (hL : L ≤ 2560) (t : Nat) (ht : 5 * t + 5 ≤ L) {σ : St} (hN : Nx σ) (hk9 : k0 + 5 ≤ 601024) (hn9 : n0 + 30 ≤ 7293034) (kk : ∀ u, Nx u → V g p l e room_1 s m args below meth c 9 (k0 + 5) (n0 + 30) Q u 2387 (lvL g b t) []) : V g p l e room_1 s m args below meth c 9 k0 n0 Q σ 2061 (lvL g b t) [] := by
  obtain ⟨n, ty, R, D, h, hU⟩ := id hN
  refine V_lv (lv' := [(0, .ref b), (1, .ref (ga g (0))), (2, .ref (ga g (89))), (3, .ref (ga g (110))), (4, .ref (ga g (111))), (5, .int (iN (5 * (t : Int))))]) rfl ?_
  refine V_aload_n X 1 rfl dL_law_2061 rfl ?_
  refine V_aload_n X 0 rfl dL_law_2062 rfl ?_
  refine V_iload X 5 rfl dL_law_2063 ?_
  refine V_iconst X dL_law_2065 ?_
  refine V_iadd X dL_law_2066 ?_
  refine V_sld X hX hbl hbA (5 * t + 1) (by omega) (by omega) (by omega) dL_law_2067 ?_
  refine V_aload_n X 3 rfl dL_law_2068 rfl ?_
  refine V_callS_Iw X (na := 3) (m_L_points g l hl9 σ h.1 ((xs (5 * t + 1)).toInt) (R32_toI _) n h.LB R D h.s1 h.R10 h.s3) gL_law_L_points rfl rfl rfl (by decide +kernel) ⟨Nat.le_of_ble_eq_true rfl, Nat.le_of_ble_eq_true rfl⟩ rfl rfl (Nat.le_of_ble_eq_true rfl) ⟨by show k0 + 1 ≤ 601024; omega, by show n0 + 6 ≤ 7293034; omega⟩ dL_law_2069 (fun E u hp => hp.elim) (fun z u zr hz => ?_)
  obtain ⟨f, hq⟩ := q_points ((xs (5 * t + 1)).toInt) h hU  hz
  refine V_istore X [(6, .int (iN (z))), (0, .ref b), (1, .ref (ga g (0))), (2, .ref (ga g (89))), (3, .ref (ga g (110))), (4, .ref (ga g (111))), (5, .int (iN (5 * (t : Int))))] dL_law_2072 (by decide) rfl ?_
  refine V_aload_n X 3 rfl dL_law_2074 rfl ?_
  refine V_aload_n X 1 rfl dL_law_2075 rfl ?_
  refine V_iload X 6 rfl dL_law_2076 ?_
  refine V_iconst X dL_law_2078 ?_
  refine V_iadd X dL_law_2079 ?_
  refine V_sld X hX hbl hbA (5 * t + 1) (by omega) (by omega) (by omega) dL_law_2080 ?_
  refine V_callV_I X (na := 1) (ci := 7) (b0 := 89) (by decide) (rfl) (by decide) rfl (m_X7_points g l hl9 u f.2 n (f.MB h.MB) R D (h.f23 f) h.R10 (h.f26 f) h.D3 ((xs (5 * t + 1)).toInt) (R32_toI _)) gL_law_X7_points rfl rfl rfl (by decide +kernel) ⟨Nat.le_of_ble_eq_true rfl, Nat.le_of_ble_eq_true rfl⟩ rfl rfl (Nat.le_of_ble_eq_true rfl) ⟨by show k0 + 1 + 0 ≤ 601024; omega, by show n0 + 6 + 0 ≤ 7293034; omega⟩ dL_law_2081 (fun b9 y9 br hy => ?_)
  obtain ⟨e1, e2, e3⟩ := hq b9 y9 hy
  refine V_istore X [(7, .int (iN (b9))), (6, .int (iN (z))), (0, .ref b), (1, .ref (ga g (0))), (2, .ref (ga g (89))), (3, .ref (ga g (110))), (4, .ref (ga g (111))), (5, .int (iN (5 * (t : Int))))] dL_law_2084 (by decide) rfl ?_
  refine V_aload_n X 4 rfl dL_law_2086 rfl ?_
  refine V_callV_I X (na := 0) (ci := 7) (b0 := 89) (by decide) (rfl) (by decide) rfl (m_X7_thrown g l hl9 y9 e3.rg) gL_law_X7_thrown rfl rfl rfl (by decide +kernel) ⟨Nat.le_of_ble_eq_true rfl, Nat.le_of_ble_eq_true rfl⟩ rfl rfl (Nat.le_of_ble_eq_true rfl) ⟨by show k0 + 1 + 0 + 0 ≤ 601024; omega, by show n0 + 6 + 0 + 0 ≤ 7293034; omega⟩ dL_law_2087 (fun z3 u3 z3r h3 => ?_)
  obtain ⟨h3a, h3b⟩ := h3
  have h3b := h3b.symm
  subst h3b
  refine V_iload X 1 rfl dL_law_2090 ?_
  refine V_icmp_eq X 2097 z3r zr dL_law_2092 (by decide) (fun _ => ?_) (fun h9 => absurd (h3a.trans e1) h9)
  refine V_iload X 1 rfl dL_law_2097 ?_
  refine V_if_ne X 2114 zr dL_law_2099 (by decide) (fun hz9 => ?_) (fun hz9 => ?_)
  · skip
    refine V_goto X 2387 dL_law_2114 (by decide) ?_
    refine V_sub (lv' := [(0, .ref b), (1, .ref (ga g (0))), (2, .ref (ga g (89))), (3, .ref (ga g (110))), (4, .ref (ga g (111))), (5, .int (iN (5 * (t : Int))))]) [2, 3, 4, 5, 6, 7] rfl ?_
    exact V_widen (by omega) (by omega) (kk _ e3)
  · skip
    refine V_aload_n X 5 rfl dL_law_2102 rfl ?_
    refine V_iconst X dL_law_2103 ?_
    refine V_laload X dL_law_2104 ?_
    refine V_topl (b := b9) (e2 hz9) ?_
    refine V_iload X 0 rfl dL_law_2105 ?_
    refine V_i2l X br dL_law_2107 ?_
    refine V_lcmpE X dL_law_2108 ?_
    refine V_if_eq X 2114 ⟨by decide, by decide⟩ dL_law_2109 (by decide) (fun _ => ?_) (fun h9 => absurd h9 (by decide))
    refine V_goto X 2387 dL_law_2114 (by decide) ?_
    refine V_sub (lv' := [(0, .ref b), (1, .ref (ga g (0))), (2, .ref (ga g (89))), (3, .ref (ga g (110))), (4, .ref (ga g (111))), (5, .int (iN (5 * (t : Int))))]) [2, 3, 4, 5, 6, 7] rfl ?_
    exact V_widen (by omega) (by omega) (kk _ e3)
set_option maxRecDepth 100000 in
set_option maxHeartbeats 4000000 in
theorem lc_32 (g : Geo) {p : Program} (l : Launch) {e : Env} {s : State} {m : MethodId} {args : Array Value} {below : List Frame} {meth : Method} {c : Code} {k0 n0 : Nat} {Q : State → Prop} {b L : Nat} {xs : Nat → Int32} (hl9 : l.stackTraces = false) (X : Cx g p l room_1 s m args meth c cL_law 9 RL wsL_law) (hX : va_X b L xs s s.heap) (hbl : b < s.heap.size) (hbA : ¬ gA g b) (hL : L ≤ 2560) (t : Nat) (ht : 5 * t + 5 ≤ L) {σ : St} (hN : Nx σ) (hk9 : k0 + 5 ≤ 601024) (hn9 : n0 + 30 ≤ 7293034) (kk : ∀ u, Nx u → V g p l e room_1 s m args below meth c 9 (k0 + 5) (n0 + 30) Q u 2387 (lvL g b t) []) : V g p l e room_1 s m args below meth c 9 k0 n0 Q σ 2117 (lvL g b t) [] := by
  obtain ⟨n, ty, R, D, h, hU⟩ := id hN
  refine V_lv (lv' := [(0, .ref b), (1, .ref (ga g (0))), (2, .ref (ga g (89))), (3, .ref (ga g (110))), (4, .ref (ga g (111))), (5, .int (iN (5 * (t : Int))))]) rfl ?_
  refine V_aload_n X 1 rfl dL_law_2117 rfl ?_
  refine V_aload_n X 0 rfl dL_law_2118 rfl ?_
  refine V_iload X 5 rfl dL_law_2119 ?_
  refine V_iconst X dL_law_2121 ?_
  refine V_iadd X dL_law_2122 ?_
  refine V_sld X hX hbl hbA (5 * t + 1) (by omega) (by omega) (by omega) dL_law_2123 ?_
  refine V_aload_n X 3 rfl dL_law_2124 rfl ?_
  refine V_callS_Iw X (na := 3) (m_L_wins g l hl9 σ h.1 ((xs (5 * t + 1)).toInt) (R32_toI _) n h.LB R D h.s1 h.R10 h.s3) gL_law_L_wins rfl rfl rfl (by decide +kernel) ⟨Nat.le_of_ble_eq_true rfl, Nat.le_of_ble_eq_true rfl⟩ rfl rfl (Nat.le_of_ble_eq_true rfl) ⟨by show k0 + 1 ≤ 601024; omega, by show n0 + 6 ≤ 7293034; omega⟩ dL_law_2125 (fun E u hp => hp.elim) (fun z u zr hz => ?_)
  obtain ⟨f, hq⟩ := q_wins ((xs (5 * t + 1)).toInt) h hU  hz
  refine V_istore X [(6, .int (iN (z))), (0, .ref b), (1, .ref (ga g (0))), (2, .ref (ga g (89))), (3, .ref (ga g (110))), (4, .ref (ga g (111))), (5, .int (iN (5 * (t : Int))))] dL_law_2128 (by decide) rfl ?_
  refine V_aload_n X 3 rfl dL_law_2130 rfl ?_
  refine V_aload_n X 1 rfl dL_law_2131 rfl ?_
  refine V_iload X 6 rfl dL_law_2132 ?_
  refine V_iconst X dL_law_2134 ?_
  refine V_iadd X dL_law_2135 ?_
  refine V_sld X hX hbl hbA (5 * t + 1) (by omega) (by omega) (by omega) dL_law_2136 ?_
  refine V_callV_I X (na := 1) (ci := 7) (b0 := 89) (by decide) (rfl) (by decide) rfl (m_X7_wins g l hl9 u f.2 n (f.MB h.MB) R (h.f23 f) h.R10 ((xs (5 * t + 1)).toInt) (R32_toI _)) gL_law_X7_wins rfl rfl rfl (by decide +kernel) ⟨Nat.le_of_ble_eq_true rfl, Nat.le_of_ble_eq_true rfl⟩ rfl rfl (Nat.le_of_ble_eq_true rfl) ⟨by show k0 + 1 + 0 ≤ 601024; omega, by show n0 + 6 + 0 ≤ 7293034; omega⟩ dL_law_2137 (fun b9 y9 br hy => ?_)
  obtain ⟨e1, e2, e3⟩ := hq b9 y9 hy
  refine V_istore X [(7, .int (iN (b9))), (6, .int (iN (z))), (0, .ref b), (1, .ref (ga g (0))), (2, .ref (ga g (89))), (3, .ref (ga g (110))), (4, .ref (ga g (111))), (5, .int (iN (5 * (t : Int))))] dL_law_2140 (by decide) rfl ?_
  refine V_aload_n X 4 rfl dL_law_2142 rfl ?_
  refine V_callV_I X (na := 0) (ci := 7) (b0 := 89) (by decide) (rfl) (by decide) rfl (m_X7_thrown g l hl9 y9 e3.rg) gL_law_X7_thrown rfl rfl rfl (by decide +kernel) ⟨Nat.le_of_ble_eq_true rfl, Nat.le_of_ble_eq_true rfl⟩ rfl rfl (Nat.le_of_ble_eq_true rfl) ⟨by show k0 + 1 + 0 + 0 ≤ 601024; omega, by show n0 + 6 + 0 + 0 ≤ 7293034; omega⟩ dL_law_2143 (fun z3 u3 z3r h3 => ?_)
  obtain ⟨h3a, h3b⟩ := h3
  have h3b := h3b.symm
  subst h3b
  refine V_iload X 1 rfl dL_law_2146 ?_
  refine V_icmp_eq X 2153 z3r zr dL_law_2148 (by decide) (fun _ => ?_) (fun h9 => absurd (h3a.trans e1) h9)
  refine V_iload X 1 rfl dL_law_2153 ?_
  refine V_if_ne X 2170 zr dL_law_2155 (by decide) (fun hz9 => ?_) (fun hz9 => ?_)
  · skip
    refine V_goto X 2387 dL_law_2170 (by decide) ?_
    refine V_sub (lv' := [(0, .ref b), (1, .ref (ga g (0))), (2, .ref (ga g (89))), (3, .ref (ga g (110))), (4, .ref (ga g (111))), (5, .int (iN (5 * (t : Int))))]) [2, 3, 4, 5, 6, 7] rfl ?_
    exact V_widen (by omega) (by omega) (kk _ e3)
  · skip
    refine V_aload_n X 5 rfl dL_law_2158 rfl ?_
    refine V_iconst X dL_law_2159 ?_
    refine V_laload X dL_law_2160 ?_
    refine V_topl (b := b9) (e2 hz9) ?_
    refine V_iload X 0 rfl dL_law_2161 ?_
    refine V_i2l X br dL_law_2163 ?_
    refine V_lcmpE X dL_law_2164 ?_
    refine V_if_eq X 2170 ⟨by decide, by decide⟩ dL_law_2165 (by decide) (fun _ => ?_) (fun h9 => absurd h9 (by decide))
    refine V_goto X 2387 dL_law_2170 (by decide) ?_
    refine V_sub (lv' := [(0, .ref b), (1, .ref (ga g (0))), (2, .ref (ga g (89))), (3, .ref (ga g (110))), (4, .ref (ga g (111))), (5, .int (iN (5 * (t : Int))))]) [2, 3, 4, 5, 6, 7] rfl ?_
    exact V_widen (by omega) (by omega) (kk _ e3)
set_option maxRecDepth 100000 in
set_option maxHeartbeats 4000000 in
theorem lc_33 (g : Geo) {p : Program} (l : Launch) {e : Env} {s : State} {m : MethodId} {args : Array Value} {below : List Frame} {meth : Method} {c : Code} {k0 n0 : Nat} {Q : State → Prop} {b L : Nat} {xs : Nat → Int32} (hl9 : l.stackTraces = false) (X : Cx g p l room_1 s m args meth c cL_law 9 RL wsL_law) (hX : va_X b L xs s s.heap) (hbl : b < s.heap.size) (hbA : ¬ gA g b) (hL : L ≤ 2560) (t : Nat) (ht : 5 * t + 5 ≤ L) {σ : St} (hN : Nx σ) (hk9 : k0 + 5 ≤ 601024) (hn9 : n0 + 30 ≤ 7293034) (kk : ∀ u, Nx u → V g p l e room_1 s m args below meth c 9 (k0 + 5) (n0 + 30) Q u 2387 (lvL g b t) []) : V g p l e room_1 s m args below meth c 9 k0 n0 Q σ 2173 (lvL g b t) [] := by
  obtain ⟨n, ty, R, D, h, hU⟩ := id hN
  refine V_lv (lv' := [(0, .ref b), (1, .ref (ga g (0))), (2, .ref (ga g (89))), (3, .ref (ga g (110))), (4, .ref (ga g (111))), (5, .int (iN (5 * (t : Int))))]) rfl ?_
  refine V_aload_n X 1 rfl dL_law_2173 rfl ?_
  refine V_aload_n X 0 rfl dL_law_2174 rfl ?_
  refine V_iload X 5 rfl dL_law_2175 ?_
  refine V_iconst X dL_law_2177 ?_
  refine V_iadd X dL_law_2178 ?_
  refine V_sld X hX hbl hbA (5 * t + 1) (by omega) (by omega) (by omega) dL_law_2179 ?_
  refine V_aload_n X 3 rfl dL_law_2180 rfl ?_
  refine V_callS_Iw X (na := 3) (m_L_standing g l hl9 σ h.1 ((xs (5 * t + 1)).toInt) (R32_toI _) n h.LB R D h.s1 h.R10 h.s3) gL_law_L_standing rfl rfl rfl (by decide +kernel) ⟨Nat.le_of_ble_eq_true rfl, Nat.le_of_ble_eq_true rfl⟩ rfl rfl (Nat.le_of_ble_eq_true rfl) ⟨by show k0 + 1 ≤ 601024; omega, by show n0 + 6 ≤ 7293034; omega⟩ dL_law_2181 (fun E u hp => hp.elim) (fun z u zr hz => ?_)
  obtain ⟨f, hq⟩ := q_standing ((xs (5 * t + 1)).toInt) h hU  hz
  refine V_istore X [(6, .int (iN (z))), (0, .ref b), (1, .ref (ga g (0))), (2, .ref (ga g (89))), (3, .ref (ga g (110))), (4, .ref (ga g (111))), (5, .int (iN (5 * (t : Int))))] dL_law_2184 (by decide) rfl ?_
  refine V_aload_n X 3 rfl dL_law_2186 rfl ?_
  refine V_aload_n X 1 rfl dL_law_2187 rfl ?_
  refine V_iload X 6 rfl dL_law_2188 ?_
  refine V_iconst X dL_law_2190 ?_
  refine V_iadd X dL_law_2191 ?_
  refine V_sld X hX hbl hbA (5 * t + 1) (by omega) (by omega) (by omega) dL_law_2192 ?_
  refine V_callV_I X (na := 1) (ci := 7) (b0 := 89) (by decide) (rfl) (by decide) rfl (m_X7_standing g l hl9 u f.2 n (f.MB h.MB) R D (h.f23 f) h.R10 (h.f26 f) h.D3 ((xs (5 * t + 1)).toInt) (R32_toI _)) gL_law_X7_standing rfl rfl rfl (by decide +kernel) ⟨Nat.le_of_ble_eq_true rfl, Nat.le_of_ble_eq_true rfl⟩ rfl rfl (Nat.le_of_ble_eq_true rfl) ⟨by show k0 + 1 + 0 ≤ 601024; omega, by show n0 + 6 + 0 ≤ 7293034; omega⟩ dL_law_2193 (fun b9 y9 br hy => ?_)
  obtain ⟨e1, e2, e3⟩ := hq b9 y9 hy
  refine V_istore X [(7, .int (iN (b9))), (6, .int (iN (z))), (0, .ref b), (1, .ref (ga g (0))), (2, .ref (ga g (89))), (3, .ref (ga g (110))), (4, .ref (ga g (111))), (5, .int (iN (5 * (t : Int))))] dL_law_2196 (by decide) rfl ?_
  refine V_aload_n X 4 rfl dL_law_2198 rfl ?_
  refine V_callV_I X (na := 0) (ci := 7) (b0 := 89) (by decide) (rfl) (by decide) rfl (m_X7_thrown g l hl9 y9 e3.rg) gL_law_X7_thrown rfl rfl rfl (by decide +kernel) ⟨Nat.le_of_ble_eq_true rfl, Nat.le_of_ble_eq_true rfl⟩ rfl rfl (Nat.le_of_ble_eq_true rfl) ⟨by show k0 + 1 + 0 + 0 ≤ 601024; omega, by show n0 + 6 + 0 + 0 ≤ 7293034; omega⟩ dL_law_2199 (fun z3 u3 z3r h3 => ?_)
  obtain ⟨h3a, h3b⟩ := h3
  have h3b := h3b.symm
  subst h3b
  refine V_iload X 1 rfl dL_law_2202 ?_
  refine V_icmp_eq X 2209 z3r zr dL_law_2204 (by decide) (fun _ => ?_) (fun h9 => absurd (h3a.trans e1) h9)
  refine V_iload X 1 rfl dL_law_2209 ?_
  refine V_if_ne X 2226 zr dL_law_2211 (by decide) (fun hz9 => ?_) (fun hz9 => ?_)
  · skip
    refine V_goto X 2387 dL_law_2226 (by decide) ?_
    refine V_sub (lv' := [(0, .ref b), (1, .ref (ga g (0))), (2, .ref (ga g (89))), (3, .ref (ga g (110))), (4, .ref (ga g (111))), (5, .int (iN (5 * (t : Int))))]) [2, 3, 4, 5, 6, 7] rfl ?_
    exact V_widen (by omega) (by omega) (kk _ e3)
  · skip
    refine V_aload_n X 5 rfl dL_law_2214 rfl ?_
    refine V_iconst X dL_law_2215 ?_
    refine V_laload X dL_law_2216 ?_
    refine V_topl (b := b9) (e2 hz9) ?_
    refine V_iload X 0 rfl dL_law_2217 ?_
    refine V_i2l X br dL_law_2219 ?_
    refine V_lcmpE X dL_law_2220 ?_
    refine V_if_eq X 2226 ⟨by decide, by decide⟩ dL_law_2221 (by decide) (fun _ => ?_) (fun h9 => absurd h9 (by decide))
    refine V_goto X 2387 dL_law_2226 (by decide) ?_
    refine V_sub (lv' := [(0, .ref b), (1, .ref (ga g (0))), (2, .ref (ga g (89))), (3, .ref (ga g (110))), (4, .ref (ga g (111))), (5, .int (iN (5 * (t : Int))))]) [2, 3, 4, 5, 6, 7] rfl ?_
    exact V_widen (by omega) (by omega) (kk _ e3)
set_option maxRecDepth 100000 in
set_option maxHeartbeats 4000000 in
theorem lc_34 (g : Geo) {p : Program} (l : Launch) {e : Env} {s : State} {m : MethodId} {args : Array Value} {below : List Frame} {meth : Method} {c : Code} {k0 n0 : Nat} {Q : State → Prop} {b L : Nat} {xs : Nat → Int32} (hl9 : l.stackTraces = false) (X : Cx g p l room_1 s m args meth c cL_law 9 RL wsL_law) (hX : va_X b L xs s s.heap) (hbl : b < s.heap.size) (hbA : ¬ gA g b) (hL : L ≤ 2560) (t : Nat) (ht : 5 * t + 5 ≤ L) {σ : St} (hN : Nx σ) (hk9 : k0 + 5 ≤ 601024) (hn9 : n0 + 30 ≤ 7293034) (kk : ∀ u, Nx u → V g p l e room_1 s m args below meth c 9 (k0 + 5) (n0 + 30) Q u 2387 (lvL g b t) []) : V g p l e room_1 s m args below meth c 9 k0 n0 Q σ 2229 (lvL g b t) [] := by
  obtain ⟨n, ty, R, D, h, hU⟩ := id hN
  refine V_lv (lv' := [(0, .ref b), (1, .ref (ga g (0))), (2, .ref (ga g (89))), (3, .ref (ga g (110))), (4, .ref (ga g (111))), (5, .int (iN (5 * (t : Int))))]) rfl ?_
  refine V_aload_n X 1 rfl dL_law_2229 rfl ?_
  refine V_callV_L X (na := 0) (ci := 6) (b0 := 0) (by decide) (rfl) (by decide) rfl (m_X6_checksum g l hl9 σ h.1 n h.b1 h.n30) gL_law_X6_checksum rfl rfl rfl (by decide +kernel) ⟨Nat.le_of_ble_eq_true rfl, Nat.le_of_ble_eq_true rfl⟩ rfl rfl (Nat.le_of_ble_eq_true rfl) ⟨by show k0 + 0 ≤ 601024; omega, by show n0 + 0 ≤ 7293034; omega⟩ dL_law_2230 (fun z u hz => ?_)
  obtain ⟨f, hq⟩ := q_checksum h hU hz
  refine V_aload_n X 2 rfl dL_law_2233 rfl ?_
  refine V_callV_L X (na := 0) (ci := 7) (b0 := 89) (by decide) (rfl) (by decide) rfl (m_X7_checksum g l hl9 u f.2 n (f.MB h.MB)) gL_law_X7_checksum rfl rfl rfl (by decide +kernel) ⟨Nat.le_of_ble_eq_true rfl, Nat.le_of_ble_eq_true rfl⟩ rfl rfl (Nat.le_of_ble_eq_true rfl) ⟨by show k0 + 0 + 0 ≤ 601024; omega, by show n0 + 0 + 0 ≤ 7293034; omega⟩ dL_law_2234 (fun b9 y9 hy => ?_)
  obtain ⟨e1, e3⟩ := hq b9 y9 hy
  refine V_topl (b := z) e1.symm ?_
  refine V_lcmpE X dL_law_2237 ?_
  refine V_if_eq X 2387 ⟨by decide, by decide⟩ dL_law_2238 (by decide) (fun _ => ?_) (fun h9 => absurd h9 (by decide))
  refine V_sub (lv' := [(0, .ref b), (1, .ref (ga g (0))), (2, .ref (ga g (89))), (3, .ref (ga g (110))), (4, .ref (ga g (111))), (5, .int (iN (5 * (t : Int))))]) [0, 1, 2, 3, 4, 5] rfl ?_
  exact V_widen (by omega) (by omega) (kk _ e3)
set_option maxRecDepth 100000 in
set_option maxHeartbeats 4000000 in
theorem lc_35 (g : Geo) {p : Program} (l : Launch) {e : Env} {s : State} {m : MethodId} {args : Array Value} {below : List Frame} {meth : Method} {c : Code} {k0 n0 : Nat} {Q : State → Prop} {b L : Nat} {xs : Nat → Int32} (hl9 : l.stackTraces = false) (X : Cx g p l room_1 s m args meth c cL_law 9 RL wsL_law) (hX : va_X b L xs s s.heap) (hbl : b < s.heap.size) (hbA : ¬ gA g b) (hL : L ≤ 2560) (t : Nat) (ht : 5 * t + 5 ≤ L) {σ : St} (hN : Nx σ) (hk9 : k0 + 5 ≤ 601024) (hn9 : n0 + 30 ≤ 7293034) (kk : ∀ u, Nx u → V g p l e room_1 s m args below meth c 9 (k0 + 5) (n0 + 30) Q u 2387 (lvL g b t) []) : V g p l e room_1 s m args below meth c 9 k0 n0 Q σ 2243 (lvL g b t) [] := by
  obtain ⟨n, ty, R, D, h, hU⟩ := id hN
  refine V_lv (lv' := [(0, .ref b), (1, .ref (ga g (0))), (2, .ref (ga g (89))), (3, .ref (ga g (110))), (4, .ref (ga g (111))), (5, .int (iN (5 * (t : Int))))]) rfl ?_
  refine V_aload_n X 1 rfl dL_law_2243 rfl ?_
  refine V_aload X 4 rfl dL_law_2244 ?_
  refine V_callS_Iw X (na := 2) (m_L_shareStored g l hl9 σ h.1 n h.b1 h.n30 h.l1 h.pb.1 h.pb.2) gL_law_L_shareStored rfl rfl rfl (by decide +kernel) ⟨Nat.le_of_ble_eq_true rfl, Nat.le_of_ble_eq_true rfl⟩ rfl rfl (Nat.le_of_ble_eq_true rfl) ⟨by show k0 + 1 ≤ 601024; omega, by show n0 + 6 ≤ 7293034; omega⟩ dL_law_2246 (fun E u hp => hp.elim) (fun z u zr hz => ?_)
  obtain ⟨f, hq⟩ := q_shareStored  h hU  hz
  refine V_istore X [(6, .int (iN (z))), (0, .ref b), (1, .ref (ga g (0))), (2, .ref (ga g (89))), (3, .ref (ga g (110))), (4, .ref (ga g (111))), (5, .int (iN (5 * (t : Int))))] dL_law_2249 (by decide) rfl ?_
  refine V_aload_n X 3 rfl dL_law_2251 rfl ?_
  refine V_callV_F X (na := 0) (ci := 7) (b0 := 89) (by decide) (rfl) (by decide) rfl (m_X7_shareStored g l hl9 u f.2 n (f.MB h.MB) (h.fk1 f)) gL_law_X7_shareStored rfl rfl rfl (by decide +kernel) ⟨Nat.le_of_ble_eq_true rfl, Nat.le_of_ble_eq_true rfl⟩ rfl rfl (Nat.le_of_ble_eq_true rfl) ⟨by show k0 + 1 + 0 ≤ 601024; omega, by show n0 + 6 + 0 ≤ 7293034; omega⟩ dL_law_2252 (fun b9 y9 hy => ?_)
  obtain ⟨e1, e2, e3⟩ := hq b9 y9 hy
  refine V_fstore X [(7, .float b9), (6, .int (iN (z))), (0, .ref b), (1, .ref (ga g (0))), (2, .ref (ga g (89))), (3, .ref (ga g (110))), (4, .ref (ga g (111))), (5, .int (iN (5 * (t : Int))))] dL_law_2255 (by decide) rfl ?_
  refine V_aload_n X 4 rfl dL_law_2257 rfl ?_
  refine V_callV_I X (na := 0) (ci := 7) (b0 := 89) (by decide) (rfl) (by decide) rfl (m_X7_thrown g l hl9 y9 e3.rg) gL_law_X7_thrown rfl rfl rfl (by decide +kernel) ⟨Nat.le_of_ble_eq_true rfl, Nat.le_of_ble_eq_true rfl⟩ rfl rfl (Nat.le_of_ble_eq_true rfl) ⟨by show k0 + 1 + 0 + 0 ≤ 601024; omega, by show n0 + 6 + 0 + 0 ≤ 7293034; omega⟩ dL_law_2258 (fun z3 u3 z3r h3 => ?_)
  obtain ⟨h3a, h3b⟩ := h3
  have h3b := h3b.symm
  subst h3b
  refine V_iload X 1 rfl dL_law_2261 ?_
  refine V_icmp_eq X 2268 z3r zr dL_law_2263 (by decide) (fun _ => ?_) (fun h9 => absurd (h3a.trans e1) h9)
  refine V_iload X 1 rfl dL_law_2268 ?_
  refine V_if_ne X 2306 zr dL_law_2270 (by decide) (fun hz9 => ?_) (fun hz9 => ?_)
  · skip
    refine V_goto X 2387 dL_law_2306 (by decide) ?_
    refine V_sub (lv' := [(0, .ref b), (1, .ref (ga g (0))), (2, .ref (ga g (89))), (3, .ref (ga g (110))), (4, .ref (ga g (111))), (5, .int (iN (5 * (t : Int))))]) [2, 3, 4, 5, 6, 7] rfl ?_
    exact V_widen (by omega) (by omega) (kk _ e3)
  · skip
    refine V_aload X 6 rfl dL_law_2273 ?_
    refine V_iconst X dL_law_2275 ?_
    refine V_daload X dL_law_2276 ?_
    refine V_stk (st' := [.double (FP.f2d b9)]) (congrArg (fun q : UInt64 => ([.double q] : List Value)) ((e2 hz9).1)) ?_
    refine V_fload X 0 rfl dL_law_2277 ?_
    refine V_f2d X (vf_of (e2 hz9).2) dL_law_2279 ?_
    refine V_dcmpE X (e2 hz9).2 dL_law_2280 ?_
    refine V_if_eq X 2306 ⟨by decide, by decide⟩ dL_law_2281 (by decide) (fun _ => ?_) (fun h9 => absurd h9 (by decide))
    refine V_goto X 2387 dL_law_2306 (by decide) ?_
    refine V_sub (lv' := [(0, .ref b), (1, .ref (ga g (0))), (2, .ref (ga g (89))), (3, .ref (ga g (110))), (4, .ref (ga g (111))), (5, .int (iN (5 * (t : Int))))]) [2, 3, 4, 5, 6, 7] rfl ?_
    exact V_widen (by omega) (by omega) (kk _ e3)
set_option maxRecDepth 100000 in
set_option maxHeartbeats 4000000 in
theorem lc_36 (g : Geo) {p : Program} (l : Launch) {e : Env} {s : State} {m : MethodId} {args : Array Value} {below : List Frame} {meth : Method} {c : Code} {k0 n0 : Nat} {Q : State → Prop} {b L : Nat} {xs : Nat → Int32} (hl9 : l.stackTraces = false) (X : Cx g p l room_1 s m args meth c cL_law 9 RL wsL_law) (hX : va_X b L xs s s.heap) (hbl : b < s.heap.size) (hbA : ¬ gA g b) (hL : L ≤ 2560) (t : Nat) (ht : 5 * t + 5 ≤ L) {σ : St} (hN : Nx σ) (hk9 : k0 + 5 ≤ 601024) (hn9 : n0 + 30 ≤ 7293034) (kk : ∀ u, Nx u → V g p l e room_1 s m args below meth c 9 (k0 + 5) (n0 + 30) Q u 2387 (lvL g b t) []) : V g p l e room_1 s m args below meth c 9 k0 n0 Q σ 2309 (lvL g b t) [] := by
  obtain ⟨n, ty, R, D, h, hU⟩ := id hN
  refine V_lv (lv' := [(0, .ref b), (1, .ref (ga g (0))), (2, .ref (ga g (89))), (3, .ref (ga g (110))), (4, .ref (ga g (111))), (5, .int (iN (5 * (t : Int))))]) rfl ?_
  refine V_aload_n X 1 rfl dL_law_2309 rfl ?_
  refine V_aload X 4 rfl dL_law_2310 ?_
  refine V_callS_Iw X (na := 2) (m_L_meanTime g l hl9 σ h.1 n h.LB) gL_law_L_meanTime rfl rfl rfl (by decide +kernel) ⟨Nat.le_of_ble_eq_true rfl, Nat.le_of_ble_eq_true rfl⟩ rfl rfl (Nat.le_of_ble_eq_true rfl) ⟨by show k0 + 1 ≤ 601024; omega, by show n0 + 6 ≤ 7293034; omega⟩ dL_law_2312 (fun E u hp => hp.elim) (fun z u zr hz => ?_)
  obtain ⟨f, hq⟩ := q_meanTime  h hU  hz
  refine V_istore X [(6, .int (iN (z))), (0, .ref b), (1, .ref (ga g (0))), (2, .ref (ga g (89))), (3, .ref (ga g (110))), (4, .ref (ga g (111))), (5, .int (iN (5 * (t : Int))))] dL_law_2315 (by decide) rfl ?_
  refine V_aload_n X 3 rfl dL_law_2317 rfl ?_
  refine V_callV_D X (na := 0) (ci := 7) (b0 := 89) (by decide) (rfl) (by decide) rfl (m_X7_meanTime g l hl9 u f.2 n (f.MB h.MB)) gL_law_X7_meanTime rfl rfl rfl (by decide +kernel) ⟨Nat.le_of_ble_eq_true rfl, Nat.le_of_ble_eq_true rfl⟩ rfl rfl (Nat.le_of_ble_eq_true rfl) ⟨by show k0 + 1 + 0 ≤ 601024; omega, by show n0 + 6 + 0 ≤ 7293034; omega⟩ dL_law_2318 (fun b9 y9 hy => ?_)
  obtain ⟨e1, e2, e3⟩ := hq b9 y9 hy
  refine V_dstore X [(7, .double b9), (6, .int (iN (z))), (0, .ref b), (1, .ref (ga g (0))), (2, .ref (ga g (89))), (3, .ref (ga g (110))), (4, .ref (ga g (111))), (5, .int (iN (5 * (t : Int))))] dL_law_2321 (by decide) rfl ?_
  refine V_aload_n X 4 rfl dL_law_2323 rfl ?_
  refine V_callV_I X (na := 0) (ci := 7) (b0 := 89) (by decide) (rfl) (by decide) rfl (m_X7_thrown g l hl9 y9 e3.rg) gL_law_X7_thrown rfl rfl rfl (by decide +kernel) ⟨Nat.le_of_ble_eq_true rfl, Nat.le_of_ble_eq_true rfl⟩ rfl rfl (Nat.le_of_ble_eq_true rfl) ⟨by show k0 + 1 + 0 + 0 ≤ 601024; omega, by show n0 + 6 + 0 + 0 ≤ 7293034; omega⟩ dL_law_2324 (fun z3 u3 z3r h3 => ?_)
  obtain ⟨h3a, h3b⟩ := h3
  have h3b := h3b.symm
  subst h3b
  refine V_iload X 1 rfl dL_law_2327 ?_
  refine V_icmp_eq X 2334 z3r zr dL_law_2329 (by decide) (fun _ => ?_) (fun h9 => absurd (h3a.trans e1) h9)
  refine V_iload X 1 rfl dL_law_2334 ?_
  refine V_if_ne X 2371 zr dL_law_2336 (by decide) (fun hz9 => ?_) (fun hz9 => ?_)
  · skip
    refine V_goto X 2387 dL_law_2371 (by decide) ?_
    refine V_sub (lv' := [(0, .ref b), (1, .ref (ga g (0))), (2, .ref (ga g (89))), (3, .ref (ga g (110))), (4, .ref (ga g (111))), (5, .int (iN (5 * (t : Int))))]) [2, 3, 4, 5, 6, 7] rfl ?_
    exact V_widen (by omega) (by omega) (kk _ e3)
  · skip
    refine V_aload X 6 rfl dL_law_2339 ?_
    refine V_iconst X dL_law_2341 ?_
    refine V_daload X dL_law_2342 ?_
    refine V_stk (st' := [.double (b9)]) (congrArg (fun q : UInt64 => ([.double q] : List Value)) ((e2 hz9).1)) ?_
    refine V_dload X 0 rfl dL_law_2343 ?_
    refine V_dcmpE X (e2 hz9).2 dL_law_2345 ?_
    refine V_if_eq X 2371 ⟨by decide, by decide⟩ dL_law_2346 (by decide) (fun _ => ?_) (fun h9 => absurd h9 (by decide))
    refine V_goto X 2387 dL_law_2371 (by decide) ?_
    refine V_sub (lv' := [(0, .ref b), (1, .ref (ga g (0))), (2, .ref (ga g (89))), (3, .ref (ga g (110))), (4, .ref (ga g (111))), (5, .int (iN (5 * (t : Int))))]) [2, 3, 4, 5, 6, 7] rfl ?_
    exact V_widen (by omega) (by omega) (kk _ e3)
set_option maxRecDepth 100000 in
set_option maxHeartbeats 4000000 in
theorem lc_37 (g : Geo) {p : Program} (l : Launch) {e : Env} {s : State} {m : MethodId} {args : Array Value} {below : List Frame} {meth : Method} {c : Code} {k0 n0 : Nat} {Q : State → Prop} {b L : Nat} {xs : Nat → Int32} (hl9 : l.stackTraces = false) (X : Cx g p l room_1 s m args meth c cL_law 9 RL wsL_law) (hX : va_X b L xs s s.heap) (hbl : b < s.heap.size) (hbA : ¬ gA g b) (hL : L ≤ 2560) (t : Nat) (ht : 5 * t + 5 ≤ L) {σ : St} (hN : Nx σ) (hk9 : k0 + 5 ≤ 601024) (hn9 : n0 + 30 ≤ 7293034) (kk : ∀ u, Nx u → V g p l e room_1 s m args below meth c 9 (k0 + 5) (n0 + 30) Q u 2387 (lvL g b t) []) : V g p l e room_1 s m args below meth c 9 k0 n0 Q σ 2374 (lvL g b t) [] := by
  obtain ⟨n, ty, R, D, h, hU⟩ := id hN
  refine V_lv (lv' := [(0, .ref b), (1, .ref (ga g (0))), (2, .ref (ga g (89))), (3, .ref (ga g (110))), (4, .ref (ga g (111))), (5, .int (iN (5 * (t : Int))))]) rfl ?_
  refine V_aload_n X 1 rfl dL_law_2374 rfl ?_
  refine V_callV_I X (na := 0) (ci := 6) (b0 := 0) (by decide) (rfl) (by decide) rfl (m_X6_isSound g l hl9 σ h.1 n h.LB h.TK h.c1.2 h.c3.2 h.lt h.snd) gL_law_X6_isSound rfl rfl rfl (by decide +kernel) ⟨Nat.le_of_ble_eq_true rfl, Nat.le_of_ble_eq_true rfl⟩ rfl rfl (Nat.le_of_ble_eq_true rfl) ⟨by show k0 + 0 ≤ 601024; omega, by show n0 + 0 ≤ 7293034; omega⟩ dL_law_2375 (fun z u zr hz => ?_)
  obtain ⟨f, hq⟩ := q_isSound h hU hz
  refine V_aload_n X 2 rfl dL_law_2378 rfl ?_
  refine V_callV_I X (na := 0) (ci := 7) (b0 := 89) (by decide) (rfl) (by decide) rfl (m_X7_isSound g l hl9 u f.2) gL_law_X7_isSound rfl rfl rfl (by decide +kernel) ⟨Nat.le_of_ble_eq_true rfl, Nat.le_of_ble_eq_true rfl⟩ rfl rfl (Nat.le_of_ble_eq_true rfl) ⟨by show k0 + 0 + 0 ≤ 601024; omega, by show n0 + 0 + 0 ≤ 7293034; omega⟩ dL_law_2379 (fun b9 y9 br hy => ?_)
  obtain ⟨e1, e3⟩ := hq b9 y9 hy
  refine V_icmp_eq X 2387 zr br dL_law_2382 (by decide) (fun _ => ?_) (fun h9 => absurd (e1) h9)
  refine V_sub (lv' := [(0, .ref b), (1, .ref (ga g (0))), (2, .ref (ga g (89))), (3, .ref (ga g (110))), (4, .ref (ga g (111))), (5, .int (iN (5 * (t : Int))))]) [0, 1, 2, 3, 4, 5] rfl ?_
  exact V_widen (by omega) (by omega) (kk _ e3)
