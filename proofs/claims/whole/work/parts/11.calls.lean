/-! a row of kit/laws/EXCEPTIONS.to-paste -/
section
variable {p : Program} {l : Launch} {e : Env} {R : Room} {s : State} {m : MethodId} {args : Array Value} {below : List Frame} {meth : Method} {c : Code} {H : Heap} {locs : List Loc} {cells slots : Nat} {Q : State → Prop}
variable {mc ms : Nat} {free : Addr → Prop} {A0 A1 : Nat → Prop} {H0 : Heap} {a : Array Value} {pc : Nat} {ls : Array Slot} {st0 rest : List Value}
theorem vx_callq {S SX : Type} {post : Option Nat → S → Prop} {px : SX → Prop} {B : S → State → Prop} {BX : String → SX → State → Prop} {AX : Nat → Prop} (hr : vx_Run p l e R s m args below meth c H locs cells slots mc ms (F0 m pc ls st0) rest (va_Qq post B A1 a) (vx_X px BX AX) free) (hS : va_S A0 H0 H locs) (hA : ∀ q, q < H.size → A1 q → A0 q) (hf : ∀ q, free q → A0 q) (hAX : ∀ q, q < H.size → AX q → A0 q)
    (kx : ∀ (E : String) (ce : Cell) (q9 : Addr) (u : SX) (t : State) (H1 : Heap) (locs1 : List Loc), t.heap = H1 → s.vm.Alike t.vm → px u → BX E u t → H.size ≤ H1.size → (∀ q : Nat, q < H.size → ¬ AX q → H1[q]? = H[q]?) → va_S A0 H0 H1 locs1 → H1[q9]? = some ce → ce.vm = .none → s.vm.findClass E = some ce.cls → vx_W p l e R s m args below meth c H1 locs1 (cells + mc) (slots + ms) Q (F0 m pc ls rest) q9)
    (kk : ∀ (r : Option Nat) (u : S) (t : State) (H1 : Heap) (locs1 : List Loc), t.heap = H1 → s.vm.Alike t.vm → post r u → B u t → H.size ≤ H1.size → (∀ q : Nat, q < H.size → ¬ A1 q → H1[q]? = H[q]?) → va_S A0 H0 H1 locs1 → W p l e R s m args below meth c H1 locs1 (cells + mc) (slots + ms) Q (F0 m (pc + 3) ls (va_rf r :: rest))) : W p l e R s m args below meth c H locs cells slots Q (F0 m pc ls st0) := by
  intro T hT X
  rcases hr T hT X with ⟨v, st₀, t, T', L, h0, X', hL, e1, e2, ⟨⟨r, u, hv, hp, hb⟩, hF⟩, st⟩ | ⟨q, st₀, t, T', L, E, ce, h0, X', hL, e1, e2, ⟨u, hp, hb, hF⟩, hce, hcv, hcl, st⟩
  · cases hv
    obtain ⟨k1, k2, k3⟩ := vx_keep h0 e1 hS hA hf hL hF
    obtain ⟨t2, a1, b1⟩ := kk r u t T'.heap (locs ++ L) e1.symm (by rw [← e2]; exact X'.warmed.alike) hp hb k1 k2 k3 T' rfl X'
    exact ⟨t2, st t2 a1, b1⟩
  · obtain ⟨k1, k2, k3⟩ := vx_keep h0 e1 hS hAX hf hL hF
    obtain ⟨t2, a1, b1⟩ := kx E ce q u t T'.heap (locs ++ L) e1.symm (by rw [← e2]; exact X'.warmed.alike) hp hb k1 k2 k3 (by rw [e1]; exact hce) hcv hcl T' rfl X'
    exact ⟨t2, st.trans a1, b1⟩
end

theorem gb_X6_113 : ∀ w ∈ vx_atN RX6 113 "java/util/NoSuchElementException" ["java/lang/RuntimeException", "java/lang/Exception"], goodWord w = true ∨ w = .castable "java/util/NoSuchElementException" "java/util/NoSuchElementException" ∨ w ∈ dcls.map .declares := by decide +kernel
theorem gd_X6_113 {ik : Nat} : ∀ w ∈ Cond.classLink RX6 ik "java/util/NoSuchElementException" :: Cond.initialized "java/util/NoSuchElementException" :: vx_atN RX6 113 "java/util/NoSuchElementException" ["java/lang/RuntimeException", "java/lang/Exception"], vx_ot w = true := by
  intro w hw
  rcases List.mem_cons.mp hw with rfl | hw
  · rfl
  · rcases List.mem_cons.mp hw with rfl | hw
    · rfl
    · exact List.all_eq_true.mp (show (vx_atN RX6 113 "java/util/NoSuchElementException" ["java/lang/RuntimeException", "java/lang/Exception"]).all vx_ot = true by decide +kernel) w hw
theorem gb_X6_293 : ∀ w ∈ vx_atS RX6 293 "java/lang/IndexOutOfBoundsException" ["java/lang/RuntimeException", "java/lang/Exception"], goodWord w = true ∨ w = .castable "java/lang/IndexOutOfBoundsException" "java/lang/IndexOutOfBoundsException" ∨ w ∈ dcls.map .declares := by decide +kernel
theorem gd_X6_293 {ik : Nat} : ∀ w ∈ Cond.classLink RX6 ik "java/lang/IndexOutOfBoundsException" :: Cond.initialized "java/lang/IndexOutOfBoundsException" :: vx_atS RX6 293 "java/lang/IndexOutOfBoundsException" ["java/lang/RuntimeException", "java/lang/Exception"], vx_ot w = true := by
  intro w hw
  rcases List.mem_cons.mp hw with rfl | hw
  · rfl
  · rcases List.mem_cons.mp hw with rfl | hw
    · rfl
    · exact List.all_eq_true.mp (show (vx_atS RX6 293 "java/lang/IndexOutOfBoundsException" ["java/lang/RuntimeException", "java/lang/Exception"]).all vx_ot = true by decide +kernel) w hw
theorem gb_X6_56 : ∀ w ∈ vx_atS RX6 56 "java/lang/IllegalStateException" ["java/lang/RuntimeException", "java/lang/Exception"], goodWord w = true ∨ w = .castable "java/lang/IllegalStateException" "java/lang/IllegalStateException" ∨ w ∈ dcls.map .declares := by decide +kernel
theorem gd_X6_56 {ik : Nat} : ∀ w ∈ Cond.classLink RX6 ik "java/lang/IllegalStateException" :: Cond.initialized "java/lang/IllegalStateException" :: vx_atS RX6 56 "java/lang/IllegalStateException" ["java/lang/RuntimeException", "java/lang/Exception"], vx_ot w = true := by
  intro w hw
  rcases List.mem_cons.mp hw with rfl | hw
  · rfl
  · rcases List.mem_cons.mp hw with rfl | hw
    · rfl
    · exact List.all_eq_true.mp (show (vx_atS RX6 56 "java/lang/IllegalStateException" ["java/lang/RuntimeException", "java/lang/Exception"]).all vx_ot = true by decide +kernel) w hw
theorem gb_X6_71 : ∀ w ∈ vx_atS RX6 71 "java/lang/IllegalArgumentException" ["java/lang/RuntimeException", "java/lang/Exception"], goodWord w = true ∨ w = .castable "java/lang/IllegalArgumentException" "java/lang/IllegalArgumentException" ∨ w ∈ dcls.map .declares := by decide +kernel
theorem gd_X6_71 {ik : Nat} : ∀ w ∈ Cond.classLink RX6 ik "java/lang/IllegalArgumentException" :: Cond.initialized "java/lang/IllegalArgumentException" :: vx_atS RX6 71 "java/lang/IllegalArgumentException" ["java/lang/RuntimeException", "java/lang/Exception"], vx_ot w = true := by
  intro w hw
  rcases List.mem_cons.mp hw with rfl | hw
  · rfl
  · rcases List.mem_cons.mp hw with rfl | hw
    · rfl
    · exact List.all_eq_true.mp (show (vx_atS RX6 71 "java/lang/IllegalArgumentException" ["java/lang/RuntimeException", "java/lang/Exception"]).all vx_ot = true by decide +kernel) w hw
theorem gb_X6_80 : ∀ w ∈ vx_atS RX6 80 "java/lang/UnsupportedOperationException" ["java/lang/RuntimeException", "java/lang/Exception"], goodWord w = true ∨ w = .castable "java/lang/UnsupportedOperationException" "java/lang/UnsupportedOperationException" ∨ w ∈ dcls.map .declares := by decide +kernel
theorem gd_X6_80 {ik : Nat} : ∀ w ∈ Cond.classLink RX6 ik "java/lang/UnsupportedOperationException" :: Cond.initialized "java/lang/UnsupportedOperationException" :: vx_atS RX6 80 "java/lang/UnsupportedOperationException" ["java/lang/RuntimeException", "java/lang/Exception"], vx_ot w = true := by
  intro w hw
  rcases List.mem_cons.mp hw with rfl | hw
  · rfl
  · rcases List.mem_cons.mp hw with rfl | hw
    · rfl
    · exact List.all_eq_true.mp (show (vx_atS RX6 80 "java/lang/UnsupportedOperationException" ["java/lang/RuntimeException", "java/lang/Exception"]).all vx_ot = true by decide +kernel) w hw

/-! ===== calls, ends, throws ===== -/
def QI (g : Geo) (post : Int → St → Prop) : Array Value → State → Outcome → State → Prop := va_Qi (S := St) (fun r u => ∃ z, r = iN z ∧ R32 z ∧ post z u) (Bw g) (gA g)
def QL (g : Geo) (post : Int → St → Prop) : Array Value → State → Outcome → State → Prop := va_Ql (S := St) (fun r u => ∃ z, r = lI z ∧ post z u) (Bw g) (gA g)
def QF (g : Geo) (post : UInt32 → St → Prop) : Array Value → State → Outcome → State → Prop := va_Qf (S := St) post (Bw g) (gA g)
def QD (g : Geo) (post : UInt64 → St → Prop) : Array Value → State → Outcome → State → Prop := va_Qd (S := St) post (Bw g) (gA g)
def QV (g : Geo) (post : St → Prop) : Array Value → State → Outcome → State → Prop := va_Qv (S := St) post (Bw g) (gA g)
def QR (g : Geo) (post : Nat → St → Prop) : Array Value → State → Outcome → State → Prop := va_Qq (S := St × Nat) (fun r u => r = some (ga g u.2) ∧ post u.2 u.1) (fun u t => Bw g u.1 t) (gA g)
def XT (g : Geo) (px : String → St → Prop) : String → State → State → Prop := vx_X (S := String × St) (fun u => px u.1 u.2) (fun E u t => E = u.1 ∧ Bw g u.2 t) (gA g)
/-- an exception of class E stands over this frame, thrown at pc -/
def VX (g : Geo) (p : Program) (l : Launch) (e : Env) (R : Room) (s : State) (m : MethodId) (args : Array Value) (below : List Frame) (meth : Method) (c : Code) (nL : Nat) (k n : Nat) (Q : State → Prop) (σ : St) (E : String) (pc : Nat) (lv : List (Nat × Value)) (st : List Value) : Prop :=
  ∀ (H : Heap) (locs : List Loc) (ls : Array Slot) (q : Addr) (ce : Cell), va_P (gD g) vwCl (cells g σ) H → va_S (gA g) s.heap H locs → lv_has ls nL lv → H[q]? = some ce → ce.vm = .none → s.vm.findClass E = some ce.cls → vx_W p l e R s m args below meth c H locs k n Q (F0 m pc ls st) q
section VC
variable {g : Geo} {p : Program} {l : Launch} {e : Env} {R : Room} {s : State} {m : MethodId} {args : Array Value} {below : List Frame} {meth : Method} {c : Code} {cc : ByteArray} {nL : Nat} {own : String} {Ts : List Cond} {k n : Nat} {Q : State → Prop} {σ : St} {pc : Nat} {lv lv' : List (Nat × Value)} {st rest : List Value}
theorem V_up {N : Nat} (I : Nat → St → List (Nat × Value) → Prop) {i0 : Nat} (h0 : i0 ≤ N) (hI : I i0 σ lv)
    (hx : ∀ u lv1, I N u lv1 → V g p l e R s m args below meth c nL k n Q u pc lv1 st)
    (hs : ∀ i u lv1, i < N → I i u lv1 → (∀ u2 lv2, I (i + 1) u2 lv2 → V g p l e R s m args below meth c nL k n Q u2 pc lv2 st) → V g p l e R s m args below meth c nL k n Q u pc lv1 st) : V g p l e R s m args below meth c nL k n Q σ pc lv st := by
  have key : ∀ (d i : Nat) (u : St) (lv1 : List (Nat × Value)), i + d = N → I i u lv1 → V g p l e R s m args below meth c nL k n Q u pc lv1 st := by
    intro d
    induction d with
    | zero =>
      intro i u lv1 h hI1
      have : i = N := by omega
      subst this
      exact hx u lv1 hI1
    | succ d ih =>
      intro i u lv1 h hI1
      exact hs i u lv1 (by omega) hI1 (fun u2 lv2 h2 => ih (i + 1) u2 lv2 (by omega) h2)
  exact key (N - i0) i0 σ lv (by omega) hI
theorem V_lv (h : lv = lv') (kk : V g p l e R s m args below meth c nL k n Q σ pc lv' st) : V g p l e R s m args below meth c nL k n Q σ pc lv st := h ▸ kk
/-- a method's head -/
theorem V_met {y : MethodName} {ws ws' : List Cond} {rm : Room} {maxL : Nat} {ret : Option FieldType} {As : List Value} {Qc : Array Value → State → Outcome → State → Prop} {mc ms : Nat} (hl9 : l.stackTraces = false) (hy : plainName y.cls = true) (hw : ws = Cond.code y cc maxL ret :: ws') (hlen : (lg_sl As).length ≤ maxL)
    (body : ∀ (p : Program) (e : Env) (s : State) (m : MethodId) (below : List Frame) (meth : Method) (c : Code), Cx g p l rm s m As.toArray meth c cc maxL y.cls ws → meth.sig.returnType = ret → meth.name = y.name → V g p l e rm s m As.toArray below meth c maxL 0 0 (MQ below Qc As.toArray s mc ms (gA g)) σ 0 (lv_args 0 As) []) : Met l y ws rm (va_Pc As (World g σ)) Qc mc ms (gA g) := by
  refine Met.ofW (cc := cc) (maxL := maxL) (ret := ret) hy hw ?_
  intro p e s m args below meth c s₁ B hml hv
  obtain ⟨rfl, hP, hk, hg⟩ := hv
  rw [lg_entry_eq]
  exact body p e s m below meth c ⟨⟨B.exec, B.bytes, hml, findClass_of_methodNamed B.named, atoms_spec (ws := ws) B.pre⟩, hk, hg, hl9, B.notSynchronized⟩ B.returns (name_of_methodNamed B.named B.method).1 s.heap [] _ hP va_S.rf (lv_entry As hlen)
theorem V_metX {y : MethodName} {ws ws' : List Cond} {rm : Room} {maxL : Nat} {ret : Option FieldType} {As : List Value} {Qc : Array Value → State → Outcome → State → Prop} {XC : String → State → State → Prop} {mc ms : Nat} (hl9 : l.stackTraces = false) (hy : plainName y.cls = true) (hw : ws = Cond.code y cc maxL ret :: ws') (hlen : (lg_sl As).length ≤ maxL)
    (body : ∀ (p : Program) (e : Env) (s : State) (m : MethodId) (below : List Frame) (meth : Method) (c : Code), Cx g p l rm s m As.toArray meth c cc maxL y.cls ws → (∀ x ∈ c.exceptionTable.toList, False) → meth.sig.returnType = ret → V g p l e rm s m As.toArray below meth c maxL 0 0 (vx_MQ below Qc XC As.toArray s mc ms (gA g)) σ 0 (lv_args 0 As) []) : vx_Met l y ws rm (va_Pc As (World g σ)) Qc XC mc ms (gA g) := by
  refine vx_ofW (cc := cc) (maxL := maxL) (ret := ret) hy hw ?_
  intro p e s m args below meth c s₁ B hml hno hv
  obtain ⟨rfl, hP, hk, hg⟩ := hv
  rw [lg_entry_eq]
  exact body p e s m below meth c ⟨⟨B.exec, B.bytes, hml, findClass_of_methodNamed B.named, atoms_spec (ws := ws) B.pre⟩, hk, hg, hl9, B.notSynchronized⟩ hno B.returns s.heap [] _ hP va_S.rf (lv_entry As hlen)
/-- a method with a table of its own -/
theorem V_metH {y : MethodName} {ws ws' : List Cond} {rm : Room} {maxL : Nat} {ret : Option FieldType} {hh : List (Nat × Nat × Nat × Nat)} {As : List Value} {Qc : Array Value → State → Outcome → State → Prop} {XC : String → State → State → Prop} {mc ms : Nat} (hl9 : l.stackTraces = false) (hy : plainName y.cls = true) (hw : ws = Cond.codeWith y cc maxL ret hh :: ws') (hlen : (lg_sl As).length ≤ maxL)
    (body : ∀ (p : Program) (e : Env) (s : State) (m : MethodId) (below : List Frame) (meth : Method) (c : Code), Cx g p l rm s m As.toArray meth c cc maxL y.cls ws → c.exceptionTable.toList = tableOf hh → meth.sig.returnType = ret → V g p l e rm s m As.toArray below meth c maxL 0 0 (vx_MQ below Qc XC As.toArray s mc ms (gA g)) σ 0 (lv_args 0 As) []) : vx_Met l y ws rm (va_Pc As (World g σ)) Qc XC mc ms (gA g) := by
  refine vx_ofWH (cc := cc) (maxL := maxL) (ret := ret) (hh := hh) hy hw ?_
  intro p e s m args below meth c s₁ B hml hv
  obtain ⟨rfl, hP, hk, hg⟩ := hv
  have hts := atoms_spec (ws := ws) B.pre
  rw [lg_entry_eq]
  exact body p e s m below meth c ⟨⟨B.exec, B.bytes, hml, findClass_of_methodNamed B.named, hts⟩, hk, hg, hl9, B.notSynchronized⟩ (vx_table (x := y) B (hts _ (by rw [hw]; exact List.mem_cons_self))) B.returns s.heap [] _ hP va_S.rf (lv_entry As hlen)

theorem V_iret (X : Cx g p l R s m args meth c cc nL own Ts) {z : Int} {post : Int → St → Prop} {ty : FieldType} (hr : meth.sig.returnType = some ty) (hnw : narrow ty (.int (iN z)) = .int (iN z)) (hz : R32 z) (hp : post z σ) (d : decode cc pc = .ok (.ireturn, 1)) {mc ms : Nat} (hk : k ≤ mc) (hn : n ≤ ms) : V g p l e R s m args below meth c nL k n (MQ below (QI g post) args s mc ms (gA g)) σ pc lv [.int (iN z)] := by
  obtain ⟨⟨hx, hb, hml, hown, hts⟩, hwk, hg, hl9, hlk⟩ := X
  intro H locs ls hP hS hl
  refine W.widen hk hn ?_
  refine W.zret hx hb hr hnw (fun t ht hW => ⟨⟨iN z, σ, rfl, ⟨z, rfl, hz, hp⟩, by unfold Bw; rw [ht]; exact hP⟩, hS.F ht⟩) hS.2.2 d hlk

theorem V_iretX (X : Cx g p l R s m args meth c cc nL own Ts) {XC : String → State → State → Prop} {z : Int} {post : Int → St → Prop} {ty : FieldType} (hr : meth.sig.returnType = some ty) (hnw : narrow ty (.int (iN z)) = .int (iN z)) (hz : R32 z) (hp : post z σ) (d : decode cc pc = .ok (.ireturn, 1)) {mc ms : Nat} (hk : k ≤ mc) (hn : n ≤ ms) : V g p l e R s m args below meth c nL k n (vx_MQ below (QI g post) XC args s mc ms (gA g)) σ pc lv [.int (iN z)] := by
  obtain ⟨⟨hx, hb, hml, hown, hts⟩, hwk, hg, hl9, hlk⟩ := X
  intro H locs ls hP hS hl
  refine W.widen hk hn ?_
  refine vx_ret ?_
  refine W.zret hx hb hr hnw (fun t ht hW => ⟨⟨iN z, σ, rfl, ⟨z, rfl, hz, hp⟩, by unfold Bw; rw [ht]; exact hP⟩, hS.F ht⟩) hS.2.2 d hlk

theorem V_lret (X : Cx g p l R s m args meth c cc nL own Ts) {z : Int} {post : Int → St → Prop} (hr : meth.sig.returnType = some .long) (hp : post z σ) (d : decode cc pc = .ok (.lreturn, 1)) {mc ms : Nat} (hk : k ≤ mc) (hn : n ≤ ms) : V g p l e R s m args below meth c nL k n (MQ below (QL g post) args s mc ms (gA g)) σ pc lv [.long (lI z)] := by
  obtain ⟨⟨hx, hb, hml, hown, hts⟩, hwk, hg, hl9, hlk⟩ := X
  intro H locs ls hP hS hl
  refine W.widen hk hn ?_
  refine W.lret hx hb hr (fun t ht hW => ⟨⟨lI z, σ, rfl, ⟨z, rfl, hp⟩, by unfold Bw; rw [ht]; exact hP⟩, hS.F ht⟩) hS.2.2 d hlk

theorem V_lretX (X : Cx g p l R s m args meth c cc nL own Ts) {XC : String → State → State → Prop} {z : Int} {post : Int → St → Prop} (hr : meth.sig.returnType = some .long) (hp : post z σ) (d : decode cc pc = .ok (.lreturn, 1)) {mc ms : Nat} (hk : k ≤ mc) (hn : n ≤ ms) : V g p l e R s m args below meth c nL k n (vx_MQ below (QL g post) XC args s mc ms (gA g)) σ pc lv [.long (lI z)] := by
  obtain ⟨⟨hx, hb, hml, hown, hts⟩, hwk, hg, hl9, hlk⟩ := X
  intro H locs ls hP hS hl
  refine W.widen hk hn ?_
  refine vx_ret ?_
  refine W.lret hx hb hr (fun t ht hW => ⟨⟨lI z, σ, rfl, ⟨z, rfl, hp⟩, by unfold Bw; rw [ht]; exact hP⟩, hS.F ht⟩) hS.2.2 d hlk

theorem V_fret (X : Cx g p l R s m args meth c cc nL own Ts) {z : UInt32} {post : UInt32 → St → Prop} (hr : meth.sig.returnType = some .float) (hp : post z σ) (d : decode cc pc = .ok (.freturn, 1)) {mc ms : Nat} (hk : k ≤ mc) (hn : n ≤ ms) : V g p l e R s m args below meth c nL k n (MQ below (QF g post) args s mc ms (gA g)) σ pc lv [.float z] := by
  obtain ⟨⟨hx, hb, hml, hown, hts⟩, hwk, hg, hl9, hlk⟩ := X
  intro H locs ls hP hS hl
  refine W.widen hk hn ?_
  refine W.fret hx hb hr (fun t ht hW => ⟨⟨z, σ, rfl, hp, by unfold Bw; rw [ht]; exact hP⟩, hS.F ht⟩) hS.2.2 d hlk

theorem V_fretX (X : Cx g p l R s m args meth c cc nL own Ts) {XC : String → State → State → Prop} {z : UInt32} {post : UInt32 → St → Prop} (hr : meth.sig.returnType = some .float) (hp : post z σ) (d : decode cc pc = .ok (.freturn, 1)) {mc ms : Nat} (hk : k ≤ mc) (hn : n ≤ ms) : V g p l e R s m args below meth c nL k n (vx_MQ below (QF g post) XC args s mc ms (gA g)) σ pc lv [.float z] := by
  obtain ⟨⟨hx, hb, hml, hown, hts⟩, hwk, hg, hl9, hlk⟩ := X
  intro H locs ls hP hS hl
  refine W.widen hk hn ?_
  refine vx_ret ?_
  refine W.fret hx hb hr (fun t ht hW => ⟨⟨z, σ, rfl, hp, by unfold Bw; rw [ht]; exact hP⟩, hS.F ht⟩) hS.2.2 d hlk

theorem V_dret (X : Cx g p l R s m args meth c cc nL own Ts) {z : UInt64} {post : UInt64 → St → Prop} (hr : meth.sig.returnType = some .double) (hp : post z σ) (d : decode cc pc = .ok (.dreturn, 1)) {mc ms : Nat} (hk : k ≤ mc) (hn : n ≤ ms) : V g p l e R s m args below meth c nL k n (MQ below (QD g post) args s mc ms (gA g)) σ pc lv [.double z] := by
  obtain ⟨⟨hx, hb, hml, hown, hts⟩, hwk, hg, hl9, hlk⟩ := X
  intro H locs ls hP hS hl
  refine W.widen hk hn ?_
  refine W.dret hx hb hr (fun t ht hW => ⟨⟨z, σ, rfl, hp, by unfold Bw; rw [ht]; exact hP⟩, hS.F ht⟩) hS.2.2 d hlk

theorem V_dretX (X : Cx g p l R s m args meth c cc nL own Ts) {XC : String → State → State → Prop} {z : UInt64} {post : UInt64 → St → Prop} (hr : meth.sig.returnType = some .double) (hp : post z σ) (d : decode cc pc = .ok (.dreturn, 1)) {mc ms : Nat} (hk : k ≤ mc) (hn : n ≤ ms) : V g p l e R s m args below meth c nL k n (vx_MQ below (QD g post) XC args s mc ms (gA g)) σ pc lv [.double z] := by
  obtain ⟨⟨hx, hb, hml, hown, hts⟩, hwk, hg, hl9, hlk⟩ := X
  intro H locs ls hP hS hl
  refine W.widen hk hn ?_
  refine vx_ret ?_
  refine W.dret hx hb hr (fun t ht hW => ⟨⟨z, σ, rfl, hp, by unfold Bw; rw [ht]; exact hP⟩, hS.F ht⟩) hS.2.2 d hlk

theorem V_vret (X : Cx g p l R s m args meth c cc nL own Ts) {post : St → Prop} (hr : meth.sig.returnType = none) (hp : post σ) (d : decode cc pc = .ok (.return_, 1)) {mc ms : Nat} (hk : k ≤ mc) (hn : n ≤ ms) : V g p l e R s m args below meth c nL k n (MQ below (QV g post) args s mc ms (gA g)) σ pc lv [] := by
  obtain ⟨⟨hx, hb, hml, hown, hts⟩, hwk, hg, hl9, hlk⟩ := X
  intro H locs ls hP hS hl
  refine W.widen hk hn ?_
  refine W.vret hx hb hr (fun t ht hW => ⟨⟨σ, rfl, hp, by unfold Bw; rw [ht]; exact hP⟩, hS.F ht⟩) hS.2.2 d hlk

theorem V_vretX (X : Cx g p l R s m args meth c cc nL own Ts) {XC : String → State → State → Prop} {post : St → Prop} (hr : meth.sig.returnType = none) (hp : post σ) (d : decode cc pc = .ok (.return_, 1)) {mc ms : Nat} (hk : k ≤ mc) (hn : n ≤ ms) : V g p l e R s m args below meth c nL k n (vx_MQ below (QV g post) XC args s mc ms (gA g)) σ pc lv [] := by
  obtain ⟨⟨hx, hb, hml, hown, hts⟩, hwk, hg, hl9, hlk⟩ := X
  intro H locs ls hP hS hl
  refine W.widen hk hn ?_
  refine vx_ret ?_
  refine W.vret hx hb hr (fun t ht hW => ⟨⟨σ, rfl, hp, by unfold Bw; rw [ht]; exact hP⟩, hS.F ht⟩) hS.2.2 d hlk

theorem V_aret (X : Cx g p l R s m args meth c cc nL own Ts) {b : Nat} {post : Nat → St → Prop} {C : String} (hr : meth.sig.returnType = some (.object C)) (hp : post b σ) (d : decode cc pc = .ok (.areturn, 1)) {mc ms : Nat} (hk : k ≤ mc) (hn : n ≤ ms) : V g p l e R s m args below meth c nL k n (MQ below (QR g post) args s mc ms (gA g)) σ pc lv [.ref (ga g b)] := by
  obtain ⟨⟨hx, hb, hml, hown, hts⟩, hwk, hg, hl9, hlk⟩ := X
  intro H locs ls hP hS hl
  refine W.widen hk hn ?_
  refine W.aret hx hb hr (Or.inl ⟨_, rfl⟩) (Or.inr ⟨_, rfl⟩) (fun t ht hW => ⟨⟨some (ga g b), (σ, b), rfl, ⟨rfl, hp⟩, by show va_P (gD g) vwCl (cells g σ) t.heap; rw [ht]; exact hP⟩, hS.F ht⟩) hS.2.2 d hlk

theorem V_aretX (X : Cx g p l R s m args meth c cc nL own Ts) {XC : String → State → State → Prop} {b : Nat} {post : Nat → St → Prop} {C : String} (hr : meth.sig.returnType = some (.object C)) (hp : post b σ) (d : decode cc pc = .ok (.areturn, 1)) {mc ms : Nat} (hk : k ≤ mc) (hn : n ≤ ms) : V g p l e R s m args below meth c nL k n (vx_MQ below (QR g post) XC args s mc ms (gA g)) σ pc lv [.ref (ga g b)] := by
  obtain ⟨⟨hx, hb, hml, hown, hts⟩, hwk, hg, hl9, hlk⟩ := X
  intro H locs ls hP hS hl
  refine W.widen hk hn ?_
  refine vx_ret ?_
  refine W.aret hx hb hr (Or.inl ⟨_, rfl⟩) (Or.inr ⟨_, rfl⟩) (fun t ht hW => ⟨⟨some (ga g b), (σ, b), rfl, ⟨rfl, hp⟩, by show va_P (gD g) vwCl (cells g σ) t.heap; rw [ht]; exact hP⟩, hS.F ht⟩) hS.2.2 d hlk

theorem V_callV_I (X : Cx g p l R s m args meth c cc nL own Ts) {ci N : Nat} {T : u_T} {C : String} (b0 : Nat) (hb0 : b0 < 112) (hkd : kd b0 = ci) (h8 : ci < 8) (hc : vwCl[ci]? = some (C, T, N)) {y : MethodName} {idx maxL mc ms na : Nat} {bytes : ByteArray} {ret : Option FieldType} {ws ws' : List Cond} {rm : Room} {As : List Value} {post : Int → St → Prop} (hM : Met l y ws rm (va_Pc (.ref (ga g b0) :: As) (World g σ)) (QI g post) mc ms (gA g)) (hG : GoodIn Ts (wsV own idx C y ws)) (hw : ws = Cond.code y bytes maxL ret :: ws') (hrc : rm.cells = mc) (hrs : rm.slots = ms) (hd : y.cls = C ∧ y.cls ≠ "java/lang/invoke/MethodHandle" ∧ y.cls ≠ "java/lang/invoke/VarHandle" ∧ (parseMethodDescriptor y.desc).map (fun d => d.parameters.length) = some na) (hR : rm.frames + 1 ≤ R.frames ∧ 8 + (maxL + 11) + rm.locals ≤ R.locals) (hna : As.length = na) (hst : st = As.reverse ++ .ref (ga g b0) :: rest) (hsum : (rest.map fun v => v.category).sum ≤ 8) (hf : k + mc ≤ R.cells ∧ n + ms ≤ R.slots) (d : decode cc pc = .ok (.invokevirtual idx, 3)) (kk : ∀ (z : Int) (u : St), R32 z → post z u → V g p l e R s m args below meth c nL (k + mc) (n + ms) Q u (pc + 3) lv (.int (iN z) :: rest)) : V g p l e R s m args below meth c nL k n Q σ pc lv st := by
  obtain ⟨⟨hx, hb, hml, hown, hts⟩, hwk, hg, hl9, hlk⟩ := X
  intro H locs ls hP hS hl
  have he : (cells g σ)[b0]? = some (ga g b0, .inr (ci, flds g (σ.1 b0) ci b0)) := by rw [cells_at hb0, cL_obj hkd h8]
  have hrun := va_runV (p := p) (l := l) (e := e) (R := R) (s := s) (m := m) (args := args) (below := below) (meth := meth) (c := c) (H := H) (locs := locs) (cells := k) (slots := n) (g := F0 m pc ls st) (rest := rest) (As := As) ⟨hx, hb, hml, hown, hts⟩ hM (cwV na hts hG hw hrc hrs hd hR) ⟨World.blind, va_recv hwk.1 hP (q0 := b0) hc he, fun U hU hW => ⟨rfl, World.call hwk hg hP hS hU hW⟩⟩ rfl hna hl.1 hst (lv_room hsum) d hf
  refine va_calli hrun hS (fun q _ h => h) (fun q h => h) (fun r u t H1 locs1 ht hvm hw hB hz hk1 hS1 => ?_)
  obtain ⟨z, rfl, hz0, hp⟩ := hw
  exact kk z u hz0 hp H1 locs1 ls (by rw [← ht]; exact hB) hS1 hl

theorem V_callV_Ix (X : Cx g p l R s m args meth c cc nL own Ts) {ci N : Nat} {T : u_T} {C : String} (b0 : Nat) (hb0 : b0 < 112) (hkd : kd b0 = ci) (h8 : ci < 8) (hc : vwCl[ci]? = some (C, T, N)) {y : MethodName} {idx maxL mc ms na : Nat} {bytes : ByteArray} {ret : Option FieldType} {ws ws' : List Cond} {rm : Room} {As : List Value} {post : Int → St → Prop} {px : String → St → Prop} (hM : vx_Met l y ws rm (va_Pc (.ref (ga g b0) :: As) (World g σ)) (QI g post) (XT g px) mc ms (gA g)) (hG : GoodIn Ts (wsV own idx C y ws)) (hw : ws = Cond.code y bytes maxL ret :: ws') (hrc : rm.cells = mc) (hrs : rm.slots = ms) (hd : y.cls = C ∧ y.cls ≠ "java/lang/invoke/MethodHandle" ∧ y.cls ≠ "java/lang/invoke/VarHandle" ∧ (parseMethodDescriptor y.desc).map (fun d => d.parameters.length) = some na) (hR : rm.frames + 1 ≤ R.frames ∧ 8 + (maxL + 11) + rm.locals ≤ R.locals) (hna : As.length = na) (hst : st = As.reverse ++ .ref (ga g b0) :: rest) (hsum : (rest.map fun v => v.category).sum ≤ 8) (hf : k + mc ≤ R.cells ∧ n + ms ≤ R.slots) (d : decode cc pc = .ok (.invokevirtual idx, 3)) (kx : ∀ (E : String) (u : St), px E u → VX g p l e R s m args below meth c nL (k + mc) (n + ms) Q u E pc lv rest) (kk : ∀ (z : Int) (u : St), R32 z → post z u → V g p l e R s m args below meth c nL (k + mc) (n + ms) Q u (pc + 3) lv (.int (iN z) :: rest)) : V g p l e R s m args below meth c nL k n Q σ pc lv st := by
  obtain ⟨⟨hx, hb, hml, hown, hts⟩, hwk, hg, hl9, hlk⟩ := X
  intro H locs ls hP hS hl
  have he : (cells g σ)[b0]? = some (ga g b0, .inr (ci, flds g (σ.1 b0) ci b0)) := by rw [cells_at hb0, cL_obj hkd h8]
  have hrun := vx_runV (p := p) (l := l) (e := e) (R := R) (s := s) (m := m) (args := args) (below := below) (meth := meth) (c := c) (H := H) (locs := locs) (cells := k) (slots := n) (g := F0 m pc ls st) (rest := rest) (As := As) ⟨hx, hb, hml, hown, hts⟩ hM (cwV na hts hG hw hrc hrs hd hR) ⟨World.blind, va_recv hwk.1 hP (q0 := b0) hc he, fun U hU hW => ⟨rfl, World.call hwk hg hP hS hU hW⟩⟩ rfl hna hl.1 hst (lv_room hsum) d hf
  refine vx_calli hrun hS (fun q _ h => h) (fun q h => h) (fun q _ h => h) (fun E ce q9 u t H1 locs1 ht hvm hp hB hz hk1 hS1 h1 h2 h3 => ?_) (fun r u t H1 locs1 ht hvm hw hB hz hk1 hS1 => ?_)
  · obtain ⟨E1, u⟩ := u
    obtain ⟨rfl, hB⟩ := hB
    exact kx E u hp H1 locs1 ls q9 ce (by rw [← ht]; exact hB) hS1 hl h1 h2 h3
  · obtain ⟨z, rfl, hz0, hp⟩ := hw
    exact kk z u hz0 hp H1 locs1 ls (by rw [← ht]; exact hB) hS1 hl

theorem V_callS_I (X : Cx g p l R s m args meth c cc nL own Ts) {y : MethodName} {idx maxL mc ms na : Nat} {bytes : ByteArray} {ret : Option FieldType} {ws ws' : List Cond} {rm : Room} {As : List Value} {post : Int → St → Prop} (hM : Met l y ws rm (va_Pc (As) (World g σ)) (QI g post) mc ms (gA g)) (hG : GoodIn Ts (va_wsS own idx y ws)) (hw : ws = Cond.code y bytes maxL ret :: ws') (hrc : rm.cells = mc) (hrs : rm.slots = ms) (hd : y.cls ≠ "java/lang/invoke/MethodHandle" ∧ y.cls ≠ "java/lang/invoke/VarHandle" ∧ (parseMethodDescriptor y.desc).map (fun d => d.parameters.length) = some na) (hR : rm.frames + 1 ≤ R.frames ∧ 8 + (maxL + 11) + rm.locals ≤ R.locals) (hna : As.length = na) (hst : st = As.reverse ++ rest) (hsum : (rest.map fun v => v.category).sum ≤ 8) (hf : k + mc ≤ R.cells ∧ n + ms ≤ R.slots) (d : decode cc pc = .ok (.invokestatic idx, 3)) (kk : ∀ (z : Int) (u : St), R32 z → post z u → V g p l e R s m args below meth c nL (k + mc) (n + ms) Q u (pc + 3) lv (.int (iN z) :: rest)) : V g p l e R s m args below meth c nL k n Q σ pc lv st := by
  obtain ⟨⟨hx, hb, hml, hown, hts⟩, hwk, hg, hl9, hlk⟩ := X
  intro H locs ls hP hS hl
  have hrun := va_runS (p := p) (l := l) (e := e) (R := R) (s := s) (m := m) (args := args) (below := below) (meth := meth) (c := c) (H := H) (locs := locs) (cells := k) (slots := n) (g := F0 m pc ls st) (rest := rest) (As := As) ⟨hx, hb, hml, hown, hts⟩ hM (va_cwS na hts hG hw hrc hrs hd hR) ⟨World.blind, fun U hU hW => ⟨rfl, World.call hwk hg hP hS hU hW⟩⟩ rfl hna hl.1 hst (lv_room hsum) d hf
  refine va_calli hrun hS (fun q _ h => h) (fun q h => h) (fun r u t H1 locs1 ht hvm hw hB hz hk1 hS1 => ?_)
  obtain ⟨z, rfl, hz0, hp⟩ := hw
  exact kk z u hz0 hp H1 locs1 ls (by rw [← ht]; exact hB) hS1 hl

theorem V_callS_Ix (X : Cx g p l R s m args meth c cc nL own Ts) {y : MethodName} {idx maxL mc ms na : Nat} {bytes : ByteArray} {ret : Option FieldType} {ws ws' : List Cond} {rm : Room} {As : List Value} {post : Int → St → Prop} {px : String → St → Prop} (hM : vx_Met l y ws rm (va_Pc (As) (World g σ)) (QI g post) (XT g px) mc ms (gA g)) (hG : GoodIn Ts (va_wsS own idx y ws)) (hw : ws = Cond.code y bytes maxL ret :: ws') (hrc : rm.cells = mc) (hrs : rm.slots = ms) (hd : y.cls ≠ "java/lang/invoke/MethodHandle" ∧ y.cls ≠ "java/lang/invoke/VarHandle" ∧ (parseMethodDescriptor y.desc).map (fun d => d.parameters.length) = some na) (hR : rm.frames + 1 ≤ R.frames ∧ 8 + (maxL + 11) + rm.locals ≤ R.locals) (hna : As.length = na) (hst : st = As.reverse ++ rest) (hsum : (rest.map fun v => v.category).sum ≤ 8) (hf : k + mc ≤ R.cells ∧ n + ms ≤ R.slots) (d : decode cc pc = .ok (.invokestatic idx, 3)) (kx : ∀ (E : String) (u : St), px E u → VX g p l e R s m args below meth c nL (k + mc) (n + ms) Q u E pc lv rest) (kk : ∀ (z : Int) (u : St), R32 z → post z u → V g p l e R s m args below meth c nL (k + mc) (n + ms) Q u (pc + 3) lv (.int (iN z) :: rest)) : V g p l e R s m args below meth c nL k n Q σ pc lv st := by
  obtain ⟨⟨hx, hb, hml, hown, hts⟩, hwk, hg, hl9, hlk⟩ := X
  intro H locs ls hP hS hl
  have hrun := vx_runS (p := p) (l := l) (e := e) (R := R) (s := s) (m := m) (args := args) (below := below) (meth := meth) (c := c) (H := H) (locs := locs) (cells := k) (slots := n) (g := F0 m pc ls st) (rest := rest) (As := As) ⟨hx, hb, hml, hown, hts⟩ hM (va_cwS na hts hG hw hrc hrs hd hR) ⟨World.blind, fun U hU hW => ⟨rfl, World.call hwk hg hP hS hU hW⟩⟩ rfl hna hl.1 hst (lv_room hsum) d hf
  refine vx_calli hrun hS (fun q _ h => h) (fun q h => h) (fun q _ h => h) (fun E ce q9 u t H1 locs1 ht hvm hp hB hz hk1 hS1 h1 h2 h3 => ?_) (fun r u t H1 locs1 ht hvm hw hB hz hk1 hS1 => ?_)
  · obtain ⟨E1, u⟩ := u
    obtain ⟨rfl, hB⟩ := hB
    exact kx E u hp H1 locs1 ls q9 ce (by rw [← ht]; exact hB) hS1 hl h1 h2 h3
  · obtain ⟨z, rfl, hz0, hp⟩ := hw
    exact kk z u hz0 hp H1 locs1 ls (by rw [← ht]; exact hB) hS1 hl

theorem V_callS_Iw (X : Cx g p l R s m args meth c cc nL own Ts) {hh : List (Nat × Nat × Nat × Nat)} {y : MethodName} {idx maxL mc ms na : Nat} {bytes : ByteArray} {ret : Option FieldType} {ws ws' : List Cond} {rm : Room} {As : List Value} {post : Int → St → Prop} {px : String → St → Prop} (hM : vx_Met l y ws rm (va_Pc (As) (World g σ)) (QI g post) (XT g px) mc ms (gA g)) (hG : GoodIn Ts (va_wsS own idx y ws)) (hw : ws = Cond.codeWith y bytes maxL ret hh :: ws') (hrc : rm.cells = mc) (hrs : rm.slots = ms) (hd : y.cls ≠ "java/lang/invoke/MethodHandle" ∧ y.cls ≠ "java/lang/invoke/VarHandle" ∧ (parseMethodDescriptor y.desc).map (fun d => d.parameters.length) = some na) (hR : rm.frames + 1 ≤ R.frames ∧ 8 + (maxL + 11) + rm.locals ≤ R.locals) (hna : As.length = na) (hst : st = As.reverse ++ rest) (hsum : (rest.map fun v => v.category).sum ≤ 8) (hf : k + mc ≤ R.cells ∧ n + ms ≤ R.slots) (d : decode cc pc = .ok (.invokestatic idx, 3)) (kx : ∀ (E : String) (u : St), px E u → VX g p l e R s m args below meth c nL (k + mc) (n + ms) Q u E pc lv rest) (kk : ∀ (z : Int) (u : St), R32 z → post z u → V g p l e R s m args below meth c nL (k + mc) (n + ms) Q u (pc + 3) lv (.int (iN z) :: rest)) : V g p l e R s m args below meth c nL k n Q σ pc lv st := by
  obtain ⟨⟨hx, hb, hml, hown, hts⟩, hwk, hg, hl9, hlk⟩ := X
  intro H locs ls hP hS hl
  have hrun := vx_runSX (p := p) (l := l) (e := e) (R := R) (s := s) (m := m) (args := args) (below := below) (meth := meth) (c := c) (H := H) (locs := locs) (cells := k) (slots := n) (g := F0 m pc ls st) (rest := rest) (As := As) ⟨hx, hb, hml, hown, hts⟩ hM (vx_cwSW na hts hG hw hrc hrs hd hR) ⟨World.blind, fun U hU hW => ⟨rfl, World.call hwk hg hP hS hU hW⟩⟩ rfl hna hl.1 hst (lv_room hsum) d hf
  refine vx_calli hrun hS (fun q _ h => h) (fun q h => h) (fun q _ h => h) (fun E ce q9 u t H1 locs1 ht hvm hp hB hz hk1 hS1 h1 h2 h3 => ?_) (fun r u t H1 locs1 ht hvm hw hB hz hk1 hS1 => ?_)
  · obtain ⟨E1, u⟩ := u
    obtain ⟨rfl, hB⟩ := hB
    exact kx E u hp H1 locs1 ls q9 ce (by rw [← ht]; exact hB) hS1 hl h1 h2 h3
  · obtain ⟨z, rfl, hz0, hp⟩ := hw
    exact kk z u hz0 hp H1 locs1 ls (by rw [← ht]; exact hB) hS1 hl

theorem V_callV_L (X : Cx g p l R s m args meth c cc nL own Ts) {ci N : Nat} {T : u_T} {C : String} (b0 : Nat) (hb0 : b0 < 112) (hkd : kd b0 = ci) (h8 : ci < 8) (hc : vwCl[ci]? = some (C, T, N)) {y : MethodName} {idx maxL mc ms na : Nat} {bytes : ByteArray} {ret : Option FieldType} {ws ws' : List Cond} {rm : Room} {As : List Value} {post : Int → St → Prop} (hM : Met l y ws rm (va_Pc (.ref (ga g b0) :: As) (World g σ)) (QL g post) mc ms (gA g)) (hG : GoodIn Ts (wsV own idx C y ws)) (hw : ws = Cond.code y bytes maxL ret :: ws') (hrc : rm.cells = mc) (hrs : rm.slots = ms) (hd : y.cls = C ∧ y.cls ≠ "java/lang/invoke/MethodHandle" ∧ y.cls ≠ "java/lang/invoke/VarHandle" ∧ (parseMethodDescriptor y.desc).map (fun d => d.parameters.length) = some na) (hR : rm.frames + 1 ≤ R.frames ∧ 8 + (maxL + 11) + rm.locals ≤ R.locals) (hna : As.length = na) (hst : st = As.reverse ++ .ref (ga g b0) :: rest) (hsum : (rest.map fun v => v.category).sum ≤ 8) (hf : k + mc ≤ R.cells ∧ n + ms ≤ R.slots) (d : decode cc pc = .ok (.invokevirtual idx, 3)) (kk : ∀ (z : Int) (u : St), post z u → V g p l e R s m args below meth c nL (k + mc) (n + ms) Q u (pc + 3) lv (.long (lI z) :: rest)) : V g p l e R s m args below meth c nL k n Q σ pc lv st := by
  obtain ⟨⟨hx, hb, hml, hown, hts⟩, hwk, hg, hl9, hlk⟩ := X
  intro H locs ls hP hS hl
  have he : (cells g σ)[b0]? = some (ga g b0, .inr (ci, flds g (σ.1 b0) ci b0)) := by rw [cells_at hb0, cL_obj hkd h8]
  have hrun := va_runV (p := p) (l := l) (e := e) (R := R) (s := s) (m := m) (args := args) (below := below) (meth := meth) (c := c) (H := H) (locs := locs) (cells := k) (slots := n) (g := F0 m pc ls st) (rest := rest) (As := As) ⟨hx, hb, hml, hown, hts⟩ hM (cwV na hts hG hw hrc hrs hd hR) ⟨World.blind, va_recv hwk.1 hP (q0 := b0) hc he, fun U hU hW => ⟨rfl, World.call hwk hg hP hS hU hW⟩⟩ rfl hna hl.1 hst (lv_room hsum) d hf
  refine va_calll hrun hS (fun q _ h => h) (fun q h => h) (fun r u t H1 locs1 ht hvm hw hB hz hk1 hS1 => ?_)
  obtain ⟨z, rfl, hp⟩ := hw
  exact kk z u hp H1 locs1 ls (by rw [← ht]; exact hB) hS1 hl

theorem V_callV_Lx (X : Cx g p l R s m args meth c cc nL own Ts) {ci N : Nat} {T : u_T} {C : String} (b0 : Nat) (hb0 : b0 < 112) (hkd : kd b0 = ci) (h8 : ci < 8) (hc : vwCl[ci]? = some (C, T, N)) {y : MethodName} {idx maxL mc ms na : Nat} {bytes : ByteArray} {ret : Option FieldType} {ws ws' : List Cond} {rm : Room} {As : List Value} {post : Int → St → Prop} {px : String → St → Prop} (hM : vx_Met l y ws rm (va_Pc (.ref (ga g b0) :: As) (World g σ)) (QL g post) (XT g px) mc ms (gA g)) (hG : GoodIn Ts (wsV own idx C y ws)) (hw : ws = Cond.code y bytes maxL ret :: ws') (hrc : rm.cells = mc) (hrs : rm.slots = ms) (hd : y.cls = C ∧ y.cls ≠ "java/lang/invoke/MethodHandle" ∧ y.cls ≠ "java/lang/invoke/VarHandle" ∧ (parseMethodDescriptor y.desc).map (fun d => d.parameters.length) = some na) (hR : rm.frames + 1 ≤ R.frames ∧ 8 + (maxL + 11) + rm.locals ≤ R.locals) (hna : As.length = na) (hst : st = As.reverse ++ .ref (ga g b0) :: rest) (hsum : (rest.map fun v => v.category).sum ≤ 8) (hf : k + mc ≤ R.cells ∧ n + ms ≤ R.slots) (d : decode cc pc = .ok (.invokevirtual idx, 3)) (kx : ∀ (E : String) (u : St), px E u → VX g p l e R s m args below meth c nL (k + mc) (n + ms) Q u E pc lv rest) (kk : ∀ (z : Int) (u : St), post z u → V g p l e R s m args below meth c nL (k + mc) (n + ms) Q u (pc + 3) lv (.long (lI z) :: rest)) : V g p l e R s m args below meth c nL k n Q σ pc lv st := by
  obtain ⟨⟨hx, hb, hml, hown, hts⟩, hwk, hg, hl9, hlk⟩ := X
  intro H locs ls hP hS hl
  have he : (cells g σ)[b0]? = some (ga g b0, .inr (ci, flds g (σ.1 b0) ci b0)) := by rw [cells_at hb0, cL_obj hkd h8]
  have hrun := vx_runV (p := p) (l := l) (e := e) (R := R) (s := s) (m := m) (args := args) (below := below) (meth := meth) (c := c) (H := H) (locs := locs) (cells := k) (slots := n) (g := F0 m pc ls st) (rest := rest) (As := As) ⟨hx, hb, hml, hown, hts⟩ hM (cwV na hts hG hw hrc hrs hd hR) ⟨World.blind, va_recv hwk.1 hP (q0 := b0) hc he, fun U hU hW => ⟨rfl, World.call hwk hg hP hS hU hW⟩⟩ rfl hna hl.1 hst (lv_room hsum) d hf
  refine vx_calll hrun hS (fun q _ h => h) (fun q h => h) (fun q _ h => h) (fun E ce q9 u t H1 locs1 ht hvm hp hB hz hk1 hS1 h1 h2 h3 => ?_) (fun r u t H1 locs1 ht hvm hw hB hz hk1 hS1 => ?_)
  · obtain ⟨E1, u⟩ := u
    obtain ⟨rfl, hB⟩ := hB
    exact kx E u hp H1 locs1 ls q9 ce (by rw [← ht]; exact hB) hS1 hl h1 h2 h3
  · obtain ⟨z, rfl, hp⟩ := hw
    exact kk z u hp H1 locs1 ls (by rw [← ht]; exact hB) hS1 hl

theorem V_callS_L (X : Cx g p l R s m args meth c cc nL own Ts) {y : MethodName} {idx maxL mc ms na : Nat} {bytes : ByteArray} {ret : Option FieldType} {ws ws' : List Cond} {rm : Room} {As : List Value} {post : Int → St → Prop} (hM : Met l y ws rm (va_Pc (As) (World g σ)) (QL g post) mc ms (gA g)) (hG : GoodIn Ts (va_wsS own idx y ws)) (hw : ws = Cond.code y bytes maxL ret :: ws') (hrc : rm.cells = mc) (hrs : rm.slots = ms) (hd : y.cls ≠ "java/lang/invoke/MethodHandle" ∧ y.cls ≠ "java/lang/invoke/VarHandle" ∧ (parseMethodDescriptor y.desc).map (fun d => d.parameters.length) = some na) (hR : rm.frames + 1 ≤ R.frames ∧ 8 + (maxL + 11) + rm.locals ≤ R.locals) (hna : As.length = na) (hst : st = As.reverse ++ rest) (hsum : (rest.map fun v => v.category).sum ≤ 8) (hf : k + mc ≤ R.cells ∧ n + ms ≤ R.slots) (d : decode cc pc = .ok (.invokestatic idx, 3)) (kk : ∀ (z : Int) (u : St), post z u → V g p l e R s m args below meth c nL (k + mc) (n + ms) Q u (pc + 3) lv (.long (lI z) :: rest)) : V g p l e R s m args below meth c nL k n Q σ pc lv st := by
  obtain ⟨⟨hx, hb, hml, hown, hts⟩, hwk, hg, hl9, hlk⟩ := X
  intro H locs ls hP hS hl
  have hrun := va_runS (p := p) (l := l) (e := e) (R := R) (s := s) (m := m) (args := args) (below := below) (meth := meth) (c := c) (H := H) (locs := locs) (cells := k) (slots := n) (g := F0 m pc ls st) (rest := rest) (As := As) ⟨hx, hb, hml, hown, hts⟩ hM (va_cwS na hts hG hw hrc hrs hd hR) ⟨World.blind, fun U hU hW => ⟨rfl, World.call hwk hg hP hS hU hW⟩⟩ rfl hna hl.1 hst (lv_room hsum) d hf
  refine va_calll hrun hS (fun q _ h => h) (fun q h => h) (fun r u t H1 locs1 ht hvm hw hB hz hk1 hS1 => ?_)
  obtain ⟨z, rfl, hp⟩ := hw
  exact kk z u hp H1 locs1 ls (by rw [← ht]; exact hB) hS1 hl

theorem V_callS_Lx (X : Cx g p l R s m args meth c cc nL own Ts) {y : MethodName} {idx maxL mc ms na : Nat} {bytes : ByteArray} {ret : Option FieldType} {ws ws' : List Cond} {rm : Room} {As : List Value} {post : Int → St → Prop} {px : String → St → Prop} (hM : vx_Met l y ws rm (va_Pc (As) (World g σ)) (QL g post) (XT g px) mc ms (gA g)) (hG : GoodIn Ts (va_wsS own idx y ws)) (hw : ws = Cond.code y bytes maxL ret :: ws') (hrc : rm.cells = mc) (hrs : rm.slots = ms) (hd : y.cls ≠ "java/lang/invoke/MethodHandle" ∧ y.cls ≠ "java/lang/invoke/VarHandle" ∧ (parseMethodDescriptor y.desc).map (fun d => d.parameters.length) = some na) (hR : rm.frames + 1 ≤ R.frames ∧ 8 + (maxL + 11) + rm.locals ≤ R.locals) (hna : As.length = na) (hst : st = As.reverse ++ rest) (hsum : (rest.map fun v => v.category).sum ≤ 8) (hf : k + mc ≤ R.cells ∧ n + ms ≤ R.slots) (d : decode cc pc = .ok (.invokestatic idx, 3)) (kx : ∀ (E : String) (u : St), px E u → VX g p l e R s m args below meth c nL (k + mc) (n + ms) Q u E pc lv rest) (kk : ∀ (z : Int) (u : St), post z u → V g p l e R s m args below meth c nL (k + mc) (n + ms) Q u (pc + 3) lv (.long (lI z) :: rest)) : V g p l e R s m args below meth c nL k n Q σ pc lv st := by
  obtain ⟨⟨hx, hb, hml, hown, hts⟩, hwk, hg, hl9, hlk⟩ := X
  intro H locs ls hP hS hl
  have hrun := vx_runS (p := p) (l := l) (e := e) (R := R) (s := s) (m := m) (args := args) (below := below) (meth := meth) (c := c) (H := H) (locs := locs) (cells := k) (slots := n) (g := F0 m pc ls st) (rest := rest) (As := As) ⟨hx, hb, hml, hown, hts⟩ hM (va_cwS na hts hG hw hrc hrs hd hR) ⟨World.blind, fun U hU hW => ⟨rfl, World.call hwk hg hP hS hU hW⟩⟩ rfl hna hl.1 hst (lv_room hsum) d hf
  refine vx_calll hrun hS (fun q _ h => h) (fun q h => h) (fun q _ h => h) (fun E ce q9 u t H1 locs1 ht hvm hp hB hz hk1 hS1 h1 h2 h3 => ?_) (fun r u t H1 locs1 ht hvm hw hB hz hk1 hS1 => ?_)
  · obtain ⟨E1, u⟩ := u
    obtain ⟨rfl, hB⟩ := hB
    exact kx E u hp H1 locs1 ls q9 ce (by rw [← ht]; exact hB) hS1 hl h1 h2 h3
  · obtain ⟨z, rfl, hp⟩ := hw
    exact kk z u hp H1 locs1 ls (by rw [← ht]; exact hB) hS1 hl

theorem V_callS_Lw (X : Cx g p l R s m args meth c cc nL own Ts) {hh : List (Nat × Nat × Nat × Nat)} {y : MethodName} {idx maxL mc ms na : Nat} {bytes : ByteArray} {ret : Option FieldType} {ws ws' : List Cond} {rm : Room} {As : List Value} {post : Int → St → Prop} {px : String → St → Prop} (hM : vx_Met l y ws rm (va_Pc (As) (World g σ)) (QL g post) (XT g px) mc ms (gA g)) (hG : GoodIn Ts (va_wsS own idx y ws)) (hw : ws = Cond.codeWith y bytes maxL ret hh :: ws') (hrc : rm.cells = mc) (hrs : rm.slots = ms) (hd : y.cls ≠ "java/lang/invoke/MethodHandle" ∧ y.cls ≠ "java/lang/invoke/VarHandle" ∧ (parseMethodDescriptor y.desc).map (fun d => d.parameters.length) = some na) (hR : rm.frames + 1 ≤ R.frames ∧ 8 + (maxL + 11) + rm.locals ≤ R.locals) (hna : As.length = na) (hst : st = As.reverse ++ rest) (hsum : (rest.map fun v => v.category).sum ≤ 8) (hf : k + mc ≤ R.cells ∧ n + ms ≤ R.slots) (d : decode cc pc = .ok (.invokestatic idx, 3)) (kx : ∀ (E : String) (u : St), px E u → VX g p l e R s m args below meth c nL (k + mc) (n + ms) Q u E pc lv rest) (kk : ∀ (z : Int) (u : St), post z u → V g p l e R s m args below meth c nL (k + mc) (n + ms) Q u (pc + 3) lv (.long (lI z) :: rest)) : V g p l e R s m args below meth c nL k n Q σ pc lv st := by
  obtain ⟨⟨hx, hb, hml, hown, hts⟩, hwk, hg, hl9, hlk⟩ := X
  intro H locs ls hP hS hl
  have hrun := vx_runSX (p := p) (l := l) (e := e) (R := R) (s := s) (m := m) (args := args) (below := below) (meth := meth) (c := c) (H := H) (locs := locs) (cells := k) (slots := n) (g := F0 m pc ls st) (rest := rest) (As := As) ⟨hx, hb, hml, hown, hts⟩ hM (vx_cwSW na hts hG hw hrc hrs hd hR) ⟨World.blind, fun U hU hW => ⟨rfl, World.call hwk hg hP hS hU hW⟩⟩ rfl hna hl.1 hst (lv_room hsum) d hf
  refine vx_calll hrun hS (fun q _ h => h) (fun q h => h) (fun q _ h => h) (fun E ce q9 u t H1 locs1 ht hvm hp hB hz hk1 hS1 h1 h2 h3 => ?_) (fun r u t H1 locs1 ht hvm hw hB hz hk1 hS1 => ?_)
  · obtain ⟨E1, u⟩ := u
    obtain ⟨rfl, hB⟩ := hB
    exact kx E u hp H1 locs1 ls q9 ce (by rw [← ht]; exact hB) hS1 hl h1 h2 h3
  · obtain ⟨z, rfl, hp⟩ := hw
    exact kk z u hp H1 locs1 ls (by rw [← ht]; exact hB) hS1 hl

theorem V_callV_F (X : Cx g p l R s m args meth c cc nL own Ts) {ci N : Nat} {T : u_T} {C : String} (b0 : Nat) (hb0 : b0 < 112) (hkd : kd b0 = ci) (h8 : ci < 8) (hc : vwCl[ci]? = some (C, T, N)) {y : MethodName} {idx maxL mc ms na : Nat} {bytes : ByteArray} {ret : Option FieldType} {ws ws' : List Cond} {rm : Room} {As : List Value} {post : UInt32 → St → Prop} (hM : Met l y ws rm (va_Pc (.ref (ga g b0) :: As) (World g σ)) (QF g post) mc ms (gA g)) (hG : GoodIn Ts (wsV own idx C y ws)) (hw : ws = Cond.code y bytes maxL ret :: ws') (hrc : rm.cells = mc) (hrs : rm.slots = ms) (hd : y.cls = C ∧ y.cls ≠ "java/lang/invoke/MethodHandle" ∧ y.cls ≠ "java/lang/invoke/VarHandle" ∧ (parseMethodDescriptor y.desc).map (fun d => d.parameters.length) = some na) (hR : rm.frames + 1 ≤ R.frames ∧ 8 + (maxL + 11) + rm.locals ≤ R.locals) (hna : As.length = na) (hst : st = As.reverse ++ .ref (ga g b0) :: rest) (hsum : (rest.map fun v => v.category).sum ≤ 8) (hf : k + mc ≤ R.cells ∧ n + ms ≤ R.slots) (d : decode cc pc = .ok (.invokevirtual idx, 3)) (kk : ∀ (z : UInt32) (u : St), post z u → V g p l e R s m args below meth c nL (k + mc) (n + ms) Q u (pc + 3) lv (.float z :: rest)) : V g p l e R s m args below meth c nL k n Q σ pc lv st := by
  obtain ⟨⟨hx, hb, hml, hown, hts⟩, hwk, hg, hl9, hlk⟩ := X
  intro H locs ls hP hS hl
  have he : (cells g σ)[b0]? = some (ga g b0, .inr (ci, flds g (σ.1 b0) ci b0)) := by rw [cells_at hb0, cL_obj hkd h8]
  have hrun := va_runV (p := p) (l := l) (e := e) (R := R) (s := s) (m := m) (args := args) (below := below) (meth := meth) (c := c) (H := H) (locs := locs) (cells := k) (slots := n) (g := F0 m pc ls st) (rest := rest) (As := As) ⟨hx, hb, hml, hown, hts⟩ hM (cwV na hts hG hw hrc hrs hd hR) ⟨World.blind, va_recv hwk.1 hP (q0 := b0) hc he, fun U hU hW => ⟨rfl, World.call hwk hg hP hS hU hW⟩⟩ rfl hna hl.1 hst (lv_room hsum) d hf
  refine va_callf hrun hS (fun q _ h => h) (fun q h => h) (fun r u t H1 locs1 ht hvm hw hB hz hk1 hS1 => ?_)
  have hp := hw
  exact kk r u hp H1 locs1 ls (by rw [← ht]; exact hB) hS1 hl

theorem V_callV_Fx (X : Cx g p l R s m args meth c cc nL own Ts) {ci N : Nat} {T : u_T} {C : String} (b0 : Nat) (hb0 : b0 < 112) (hkd : kd b0 = ci) (h8 : ci < 8) (hc : vwCl[ci]? = some (C, T, N)) {y : MethodName} {idx maxL mc ms na : Nat} {bytes : ByteArray} {ret : Option FieldType} {ws ws' : List Cond} {rm : Room} {As : List Value} {post : UInt32 → St → Prop} {px : String → St → Prop} (hM : vx_Met l y ws rm (va_Pc (.ref (ga g b0) :: As) (World g σ)) (QF g post) (XT g px) mc ms (gA g)) (hG : GoodIn Ts (wsV own idx C y ws)) (hw : ws = Cond.code y bytes maxL ret :: ws') (hrc : rm.cells = mc) (hrs : rm.slots = ms) (hd : y.cls = C ∧ y.cls ≠ "java/lang/invoke/MethodHandle" ∧ y.cls ≠ "java/lang/invoke/VarHandle" ∧ (parseMethodDescriptor y.desc).map (fun d => d.parameters.length) = some na) (hR : rm.frames + 1 ≤ R.frames ∧ 8 + (maxL + 11) + rm.locals ≤ R.locals) (hna : As.length = na) (hst : st = As.reverse ++ .ref (ga g b0) :: rest) (hsum : (rest.map fun v => v.category).sum ≤ 8) (hf : k + mc ≤ R.cells ∧ n + ms ≤ R.slots) (d : decode cc pc = .ok (.invokevirtual idx, 3)) (kx : ∀ (E : String) (u : St), px E u → VX g p l e R s m args below meth c nL (k + mc) (n + ms) Q u E pc lv rest) (kk : ∀ (z : UInt32) (u : St), post z u → V g p l e R s m args below meth c nL (k + mc) (n + ms) Q u (pc + 3) lv (.float z :: rest)) : V g p l e R s m args below meth c nL k n Q σ pc lv st := by
  obtain ⟨⟨hx, hb, hml, hown, hts⟩, hwk, hg, hl9, hlk⟩ := X
  intro H locs ls hP hS hl
  have he : (cells g σ)[b0]? = some (ga g b0, .inr (ci, flds g (σ.1 b0) ci b0)) := by rw [cells_at hb0, cL_obj hkd h8]
  have hrun := vx_runV (p := p) (l := l) (e := e) (R := R) (s := s) (m := m) (args := args) (below := below) (meth := meth) (c := c) (H := H) (locs := locs) (cells := k) (slots := n) (g := F0 m pc ls st) (rest := rest) (As := As) ⟨hx, hb, hml, hown, hts⟩ hM (cwV na hts hG hw hrc hrs hd hR) ⟨World.blind, va_recv hwk.1 hP (q0 := b0) hc he, fun U hU hW => ⟨rfl, World.call hwk hg hP hS hU hW⟩⟩ rfl hna hl.1 hst (lv_room hsum) d hf
  refine vx_callf hrun hS (fun q _ h => h) (fun q h => h) (fun q _ h => h) (fun E ce q9 u t H1 locs1 ht hvm hp hB hz hk1 hS1 h1 h2 h3 => ?_) (fun r u t H1 locs1 ht hvm hw hB hz hk1 hS1 => ?_)
  · obtain ⟨E1, u⟩ := u
    obtain ⟨rfl, hB⟩ := hB
    exact kx E u hp H1 locs1 ls q9 ce (by rw [← ht]; exact hB) hS1 hl h1 h2 h3
  · have hp := hw
    exact kk r u hp H1 locs1 ls (by rw [← ht]; exact hB) hS1 hl

theorem V_callS_F (X : Cx g p l R s m args meth c cc nL own Ts) {y : MethodName} {idx maxL mc ms na : Nat} {bytes : ByteArray} {ret : Option FieldType} {ws ws' : List Cond} {rm : Room} {As : List Value} {post : UInt32 → St → Prop} (hM : Met l y ws rm (va_Pc (As) (World g σ)) (QF g post) mc ms (gA g)) (hG : GoodIn Ts (va_wsS own idx y ws)) (hw : ws = Cond.code y bytes maxL ret :: ws') (hrc : rm.cells = mc) (hrs : rm.slots = ms) (hd : y.cls ≠ "java/lang/invoke/MethodHandle" ∧ y.cls ≠ "java/lang/invoke/VarHandle" ∧ (parseMethodDescriptor y.desc).map (fun d => d.parameters.length) = some na) (hR : rm.frames + 1 ≤ R.frames ∧ 8 + (maxL + 11) + rm.locals ≤ R.locals) (hna : As.length = na) (hst : st = As.reverse ++ rest) (hsum : (rest.map fun v => v.category).sum ≤ 8) (hf : k + mc ≤ R.cells ∧ n + ms ≤ R.slots) (d : decode cc pc = .ok (.invokestatic idx, 3)) (kk : ∀ (z : UInt32) (u : St), post z u → V g p l e R s m args below meth c nL (k + mc) (n + ms) Q u (pc + 3) lv (.float z :: rest)) : V g p l e R s m args below meth c nL k n Q σ pc lv st := by
  obtain ⟨⟨hx, hb, hml, hown, hts⟩, hwk, hg, hl9, hlk⟩ := X
  intro H locs ls hP hS hl
  have hrun := va_runS (p := p) (l := l) (e := e) (R := R) (s := s) (m := m) (args := args) (below := below) (meth := meth) (c := c) (H := H) (locs := locs) (cells := k) (slots := n) (g := F0 m pc ls st) (rest := rest) (As := As) ⟨hx, hb, hml, hown, hts⟩ hM (va_cwS na hts hG hw hrc hrs hd hR) ⟨World.blind, fun U hU hW => ⟨rfl, World.call hwk hg hP hS hU hW⟩⟩ rfl hna hl.1 hst (lv_room hsum) d hf
  refine va_callf hrun hS (fun q _ h => h) (fun q h => h) (fun r u t H1 locs1 ht hvm hw hB hz hk1 hS1 => ?_)
  have hp := hw
  exact kk r u hp H1 locs1 ls (by rw [← ht]; exact hB) hS1 hl

theorem V_callS_Fx (X : Cx g p l R s m args meth c cc nL own Ts) {y : MethodName} {idx maxL mc ms na : Nat} {bytes : ByteArray} {ret : Option FieldType} {ws ws' : List Cond} {rm : Room} {As : List Value} {post : UInt32 → St → Prop} {px : String → St → Prop} (hM : vx_Met l y ws rm (va_Pc (As) (World g σ)) (QF g post) (XT g px) mc ms (gA g)) (hG : GoodIn Ts (va_wsS own idx y ws)) (hw : ws = Cond.code y bytes maxL ret :: ws') (hrc : rm.cells = mc) (hrs : rm.slots = ms) (hd : y.cls ≠ "java/lang/invoke/MethodHandle" ∧ y.cls ≠ "java/lang/invoke/VarHandle" ∧ (parseMethodDescriptor y.desc).map (fun d => d.parameters.length) = some na) (hR : rm.frames + 1 ≤ R.frames ∧ 8 + (maxL + 11) + rm.locals ≤ R.locals) (hna : As.length = na) (hst : st = As.reverse ++ rest) (hsum : (rest.map fun v => v.category).sum ≤ 8) (hf : k + mc ≤ R.cells ∧ n + ms ≤ R.slots) (d : decode cc pc = .ok (.invokestatic idx, 3)) (kx : ∀ (E : String) (u : St), px E u → VX g p l e R s m args below meth c nL (k + mc) (n + ms) Q u E pc lv rest) (kk : ∀ (z : UInt32) (u : St), post z u → V g p l e R s m args below meth c nL (k + mc) (n + ms) Q u (pc + 3) lv (.float z :: rest)) : V g p l e R s m args below meth c nL k n Q σ pc lv st := by
  obtain ⟨⟨hx, hb, hml, hown, hts⟩, hwk, hg, hl9, hlk⟩ := X
  intro H locs ls hP hS hl
  have hrun := vx_runS (p := p) (l := l) (e := e) (R := R) (s := s) (m := m) (args := args) (below := below) (meth := meth) (c := c) (H := H) (locs := locs) (cells := k) (slots := n) (g := F0 m pc ls st) (rest := rest) (As := As) ⟨hx, hb, hml, hown, hts⟩ hM (va_cwS na hts hG hw hrc hrs hd hR) ⟨World.blind, fun U hU hW => ⟨rfl, World.call hwk hg hP hS hU hW⟩⟩ rfl hna hl.1 hst (lv_room hsum) d hf
  refine vx_callf hrun hS (fun q _ h => h) (fun q h => h) (fun q _ h => h) (fun E ce q9 u t H1 locs1 ht hvm hp hB hz hk1 hS1 h1 h2 h3 => ?_) (fun r u t H1 locs1 ht hvm hw hB hz hk1 hS1 => ?_)
  · obtain ⟨E1, u⟩ := u
    obtain ⟨rfl, hB⟩ := hB
    exact kx E u hp H1 locs1 ls q9 ce (by rw [← ht]; exact hB) hS1 hl h1 h2 h3
  · have hp := hw
    exact kk r u hp H1 locs1 ls (by rw [← ht]; exact hB) hS1 hl

theorem V_callS_Fw (X : Cx g p l R s m args meth c cc nL own Ts) {hh : List (Nat × Nat × Nat × Nat)} {y : MethodName} {idx maxL mc ms na : Nat} {bytes : ByteArray} {ret : Option FieldType} {ws ws' : List Cond} {rm : Room} {As : List Value} {post : UInt32 → St → Prop} {px : String → St → Prop} (hM : vx_Met l y ws rm (va_Pc (As) (World g σ)) (QF g post) (XT g px) mc ms (gA g)) (hG : GoodIn Ts (va_wsS own idx y ws)) (hw : ws = Cond.codeWith y bytes maxL ret hh :: ws') (hrc : rm.cells = mc) (hrs : rm.slots = ms) (hd : y.cls ≠ "java/lang/invoke/MethodHandle" ∧ y.cls ≠ "java/lang/invoke/VarHandle" ∧ (parseMethodDescriptor y.desc).map (fun d => d.parameters.length) = some na) (hR : rm.frames + 1 ≤ R.frames ∧ 8 + (maxL + 11) + rm.locals ≤ R.locals) (hna : As.length = na) (hst : st = As.reverse ++ rest) (hsum : (rest.map fun v => v.category).sum ≤ 8) (hf : k + mc ≤ R.cells ∧ n + ms ≤ R.slots) (d : decode cc pc = .ok (.invokestatic idx, 3)) (kx : ∀ (E : String) (u : St), px E u → VX g p l e R s m args below meth c nL (k + mc) (n + ms) Q u E pc lv rest) (kk : ∀ (z : UInt32) (u : St), post z u → V g p l e R s m args below meth c nL (k + mc) (n + ms) Q u (pc + 3) lv (.float z :: rest)) : V g p l e R s m args below meth c nL k n Q σ pc lv st := by
  obtain ⟨⟨hx, hb, hml, hown, hts⟩, hwk, hg, hl9, hlk⟩ := X
  intro H locs ls hP hS hl
  have hrun := vx_runSX (p := p) (l := l) (e := e) (R := R) (s := s) (m := m) (args := args) (below := below) (meth := meth) (c := c) (H := H) (locs := locs) (cells := k) (slots := n) (g := F0 m pc ls st) (rest := rest) (As := As) ⟨hx, hb, hml, hown, hts⟩ hM (vx_cwSW na hts hG hw hrc hrs hd hR) ⟨World.blind, fun U hU hW => ⟨rfl, World.call hwk hg hP hS hU hW⟩⟩ rfl hna hl.1 hst (lv_room hsum) d hf
  refine vx_callf hrun hS (fun q _ h => h) (fun q h => h) (fun q _ h => h) (fun E ce q9 u t H1 locs1 ht hvm hp hB hz hk1 hS1 h1 h2 h3 => ?_) (fun r u t H1 locs1 ht hvm hw hB hz hk1 hS1 => ?_)
  · obtain ⟨E1, u⟩ := u
    obtain ⟨rfl, hB⟩ := hB
    exact kx E u hp H1 locs1 ls q9 ce (by rw [← ht]; exact hB) hS1 hl h1 h2 h3
  · have hp := hw
    exact kk r u hp H1 locs1 ls (by rw [← ht]; exact hB) hS1 hl

theorem V_callV_D (X : Cx g p l R s m args meth c cc nL own Ts) {ci N : Nat} {T : u_T} {C : String} (b0 : Nat) (hb0 : b0 < 112) (hkd : kd b0 = ci) (h8 : ci < 8) (hc : vwCl[ci]? = some (C, T, N)) {y : MethodName} {idx maxL mc ms na : Nat} {bytes : ByteArray} {ret : Option FieldType} {ws ws' : List Cond} {rm : Room} {As : List Value} {post : UInt64 → St → Prop} (hM : Met l y ws rm (va_Pc (.ref (ga g b0) :: As) (World g σ)) (QD g post) mc ms (gA g)) (hG : GoodIn Ts (wsV own idx C y ws)) (hw : ws = Cond.code y bytes maxL ret :: ws') (hrc : rm.cells = mc) (hrs : rm.slots = ms) (hd : y.cls = C ∧ y.cls ≠ "java/lang/invoke/MethodHandle" ∧ y.cls ≠ "java/lang/invoke/VarHandle" ∧ (parseMethodDescriptor y.desc).map (fun d => d.parameters.length) = some na) (hR : rm.frames + 1 ≤ R.frames ∧ 8 + (maxL + 11) + rm.locals ≤ R.locals) (hna : As.length = na) (hst : st = As.reverse ++ .ref (ga g b0) :: rest) (hsum : (rest.map fun v => v.category).sum ≤ 8) (hf : k + mc ≤ R.cells ∧ n + ms ≤ R.slots) (d : decode cc pc = .ok (.invokevirtual idx, 3)) (kk : ∀ (z : UInt64) (u : St), post z u → V g p l e R s m args below meth c nL (k + mc) (n + ms) Q u (pc + 3) lv (.double z :: rest)) : V g p l e R s m args below meth c nL k n Q σ pc lv st := by
  obtain ⟨⟨hx, hb, hml, hown, hts⟩, hwk, hg, hl9, hlk⟩ := X
  intro H locs ls hP hS hl
  have he : (cells g σ)[b0]? = some (ga g b0, .inr (ci, flds g (σ.1 b0) ci b0)) := by rw [cells_at hb0, cL_obj hkd h8]
  have hrun := va_runV (p := p) (l := l) (e := e) (R := R) (s := s) (m := m) (args := args) (below := below) (meth := meth) (c := c) (H := H) (locs := locs) (cells := k) (slots := n) (g := F0 m pc ls st) (rest := rest) (As := As) ⟨hx, hb, hml, hown, hts⟩ hM (cwV na hts hG hw hrc hrs hd hR) ⟨World.blind, va_recv hwk.1 hP (q0 := b0) hc he, fun U hU hW => ⟨rfl, World.call hwk hg hP hS hU hW⟩⟩ rfl hna hl.1 hst (lv_room hsum) d hf
  refine va_calld hrun hS (fun q _ h => h) (fun q h => h) (fun r u t H1 locs1 ht hvm hw hB hz hk1 hS1 => ?_)
  have hp := hw
  exact kk r u hp H1 locs1 ls (by rw [← ht]; exact hB) hS1 hl

theorem V_callV_Dx (X : Cx g p l R s m args meth c cc nL own Ts) {ci N : Nat} {T : u_T} {C : String} (b0 : Nat) (hb0 : b0 < 112) (hkd : kd b0 = ci) (h8 : ci < 8) (hc : vwCl[ci]? = some (C, T, N)) {y : MethodName} {idx maxL mc ms na : Nat} {bytes : ByteArray} {ret : Option FieldType} {ws ws' : List Cond} {rm : Room} {As : List Value} {post : UInt64 → St → Prop} {px : String → St → Prop} (hM : vx_Met l y ws rm (va_Pc (.ref (ga g b0) :: As) (World g σ)) (QD g post) (XT g px) mc ms (gA g)) (hG : GoodIn Ts (wsV own idx C y ws)) (hw : ws = Cond.code y bytes maxL ret :: ws') (hrc : rm.cells = mc) (hrs : rm.slots = ms) (hd : y.cls = C ∧ y.cls ≠ "java/lang/invoke/MethodHandle" ∧ y.cls ≠ "java/lang/invoke/VarHandle" ∧ (parseMethodDescriptor y.desc).map (fun d => d.parameters.length) = some na) (hR : rm.frames + 1 ≤ R.frames ∧ 8 + (maxL + 11) + rm.locals ≤ R.locals) (hna : As.length = na) (hst : st = As.reverse ++ .ref (ga g b0) :: rest) (hsum : (rest.map fun v => v.category).sum ≤ 8) (hf : k + mc ≤ R.cells ∧ n + ms ≤ R.slots) (d : decode cc pc = .ok (.invokevirtual idx, 3)) (kx : ∀ (E : String) (u : St), px E u → VX g p l e R s m args below meth c nL (k + mc) (n + ms) Q u E pc lv rest) (kk : ∀ (z : UInt64) (u : St), post z u → V g p l e R s m args below meth c nL (k + mc) (n + ms) Q u (pc + 3) lv (.double z :: rest)) : V g p l e R s m args below meth c nL k n Q σ pc lv st := by
  obtain ⟨⟨hx, hb, hml, hown, hts⟩, hwk, hg, hl9, hlk⟩ := X
  intro H locs ls hP hS hl
  have he : (cells g σ)[b0]? = some (ga g b0, .inr (ci, flds g (σ.1 b0) ci b0)) := by rw [cells_at hb0, cL_obj hkd h8]
  have hrun := vx_runV (p := p) (l := l) (e := e) (R := R) (s := s) (m := m) (args := args) (below := below) (meth := meth) (c := c) (H := H) (locs := locs) (cells := k) (slots := n) (g := F0 m pc ls st) (rest := rest) (As := As) ⟨hx, hb, hml, hown, hts⟩ hM (cwV na hts hG hw hrc hrs hd hR) ⟨World.blind, va_recv hwk.1 hP (q0 := b0) hc he, fun U hU hW => ⟨rfl, World.call hwk hg hP hS hU hW⟩⟩ rfl hna hl.1 hst (lv_room hsum) d hf
  refine vx_calld hrun hS (fun q _ h => h) (fun q h => h) (fun q _ h => h) (fun E ce q9 u t H1 locs1 ht hvm hp hB hz hk1 hS1 h1 h2 h3 => ?_) (fun r u t H1 locs1 ht hvm hw hB hz hk1 hS1 => ?_)
  · obtain ⟨E1, u⟩ := u
    obtain ⟨rfl, hB⟩ := hB
    exact kx E u hp H1 locs1 ls q9 ce (by rw [← ht]; exact hB) hS1 hl h1 h2 h3
  · have hp := hw
    exact kk r u hp H1 locs1 ls (by rw [← ht]; exact hB) hS1 hl

theorem V_callS_D (X : Cx g p l R s m args meth c cc nL own Ts) {y : MethodName} {idx maxL mc ms na : Nat} {bytes : ByteArray} {ret : Option FieldType} {ws ws' : List Cond} {rm : Room} {As : List Value} {post : UInt64 → St → Prop} (hM : Met l y ws rm (va_Pc (As) (World g σ)) (QD g post) mc ms (gA g)) (hG : GoodIn Ts (va_wsS own idx y ws)) (hw : ws = Cond.code y bytes maxL ret :: ws') (hrc : rm.cells = mc) (hrs : rm.slots = ms) (hd : y.cls ≠ "java/lang/invoke/MethodHandle" ∧ y.cls ≠ "java/lang/invoke/VarHandle" ∧ (parseMethodDescriptor y.desc).map (fun d => d.parameters.length) = some na) (hR : rm.frames + 1 ≤ R.frames ∧ 8 + (maxL + 11) + rm.locals ≤ R.locals) (hna : As.length = na) (hst : st = As.reverse ++ rest) (hsum : (rest.map fun v => v.category).sum ≤ 8) (hf : k + mc ≤ R.cells ∧ n + ms ≤ R.slots) (d : decode cc pc = .ok (.invokestatic idx, 3)) (kk : ∀ (z : UInt64) (u : St), post z u → V g p l e R s m args below meth c nL (k + mc) (n + ms) Q u (pc + 3) lv (.double z :: rest)) : V g p l e R s m args below meth c nL k n Q σ pc lv st := by
  obtain ⟨⟨hx, hb, hml, hown, hts⟩, hwk, hg, hl9, hlk⟩ := X
  intro H locs ls hP hS hl
  have hrun := va_runS (p := p) (l := l) (e := e) (R := R) (s := s) (m := m) (args := args) (below := below) (meth := meth) (c := c) (H := H) (locs := locs) (cells := k) (slots := n) (g := F0 m pc ls st) (rest := rest) (As := As) ⟨hx, hb, hml, hown, hts⟩ hM (va_cwS na hts hG hw hrc hrs hd hR) ⟨World.blind, fun U hU hW => ⟨rfl, World.call hwk hg hP hS hU hW⟩⟩ rfl hna hl.1 hst (lv_room hsum) d hf
  refine va_calld hrun hS (fun q _ h => h) (fun q h => h) (fun r u t H1 locs1 ht hvm hw hB hz hk1 hS1 => ?_)
  have hp := hw
  exact kk r u hp H1 locs1 ls (by rw [← ht]; exact hB) hS1 hl

theorem V_callS_Dx (X : Cx g p l R s m args meth c cc nL own Ts) {y : MethodName} {idx maxL mc ms na : Nat} {bytes : ByteArray} {ret : Option FieldType} {ws ws' : List Cond} {rm : Room} {As : List Value} {post : UInt64 → St → Prop} {px : String → St → Prop} (hM : vx_Met l y ws rm (va_Pc (As) (World g σ)) (QD g post) (XT g px) mc ms (gA g)) (hG : GoodIn Ts (va_wsS own idx y ws)) (hw : ws = Cond.code y bytes maxL ret :: ws') (hrc : rm.cells = mc) (hrs : rm.slots = ms) (hd : y.cls ≠ "java/lang/invoke/MethodHandle" ∧ y.cls ≠ "java/lang/invoke/VarHandle" ∧ (parseMethodDescriptor y.desc).map (fun d => d.parameters.length) = some na) (hR : rm.frames + 1 ≤ R.frames ∧ 8 + (maxL + 11) + rm.locals ≤ R.locals) (hna : As.length = na) (hst : st = As.reverse ++ rest) (hsum : (rest.map fun v => v.category).sum ≤ 8) (hf : k + mc ≤ R.cells ∧ n + ms ≤ R.slots) (d : decode cc pc = .ok (.invokestatic idx, 3)) (kx : ∀ (E : String) (u : St), px E u → VX g p l e R s m args below meth c nL (k + mc) (n + ms) Q u E pc lv rest) (kk : ∀ (z : UInt64) (u : St), post z u → V g p l e R s m args below meth c nL (k + mc) (n + ms) Q u (pc + 3) lv (.double z :: rest)) : V g p l e R s m args below meth c nL k n Q σ pc lv st := by
  obtain ⟨⟨hx, hb, hml, hown, hts⟩, hwk, hg, hl9, hlk⟩ := X
  intro H locs ls hP hS hl
  have hrun := vx_runS (p := p) (l := l) (e := e) (R := R) (s := s) (m := m) (args := args) (below := below) (meth := meth) (c := c) (H := H) (locs := locs) (cells := k) (slots := n) (g := F0 m pc ls st) (rest := rest) (As := As) ⟨hx, hb, hml, hown, hts⟩ hM (va_cwS na hts hG hw hrc hrs hd hR) ⟨World.blind, fun U hU hW => ⟨rfl, World.call hwk hg hP hS hU hW⟩⟩ rfl hna hl.1 hst (lv_room hsum) d hf
  refine vx_calld hrun hS (fun q _ h => h) (fun q h => h) (fun q _ h => h) (fun E ce q9 u t H1 locs1 ht hvm hp hB hz hk1 hS1 h1 h2 h3 => ?_) (fun r u t H1 locs1 ht hvm hw hB hz hk1 hS1 => ?_)
  · obtain ⟨E1, u⟩ := u
    obtain ⟨rfl, hB⟩ := hB
    exact kx E u hp H1 locs1 ls q9 ce (by rw [← ht]; exact hB) hS1 hl h1 h2 h3
  · have hp := hw
    exact kk r u hp H1 locs1 ls (by rw [← ht]; exact hB) hS1 hl

theorem V_callS_Dw (X : Cx g p l R s m args meth c cc nL own Ts) {hh : List (Nat × Nat × Nat × Nat)} {y : MethodName} {idx maxL mc ms na : Nat} {bytes : ByteArray} {ret : Option FieldType} {ws ws' : List Cond} {rm : Room} {As : List Value} {post : UInt64 → St → Prop} {px : String → St → Prop} (hM : vx_Met l y ws rm (va_Pc (As) (World g σ)) (QD g post) (XT g px) mc ms (gA g)) (hG : GoodIn Ts (va_wsS own idx y ws)) (hw : ws = Cond.codeWith y bytes maxL ret hh :: ws') (hrc : rm.cells = mc) (hrs : rm.slots = ms) (hd : y.cls ≠ "java/lang/invoke/MethodHandle" ∧ y.cls ≠ "java/lang/invoke/VarHandle" ∧ (parseMethodDescriptor y.desc).map (fun d => d.parameters.length) = some na) (hR : rm.frames + 1 ≤ R.frames ∧ 8 + (maxL + 11) + rm.locals ≤ R.locals) (hna : As.length = na) (hst : st = As.reverse ++ rest) (hsum : (rest.map fun v => v.category).sum ≤ 8) (hf : k + mc ≤ R.cells ∧ n + ms ≤ R.slots) (d : decode cc pc = .ok (.invokestatic idx, 3)) (kx : ∀ (E : String) (u : St), px E u → VX g p l e R s m args below meth c nL (k + mc) (n + ms) Q u E pc lv rest) (kk : ∀ (z : UInt64) (u : St), post z u → V g p l e R s m args below meth c nL (k + mc) (n + ms) Q u (pc + 3) lv (.double z :: rest)) : V g p l e R s m args below meth c nL k n Q σ pc lv st := by
  obtain ⟨⟨hx, hb, hml, hown, hts⟩, hwk, hg, hl9, hlk⟩ := X
  intro H locs ls hP hS hl
  have hrun := vx_runSX (p := p) (l := l) (e := e) (R := R) (s := s) (m := m) (args := args) (below := below) (meth := meth) (c := c) (H := H) (locs := locs) (cells := k) (slots := n) (g := F0 m pc ls st) (rest := rest) (As := As) ⟨hx, hb, hml, hown, hts⟩ hM (vx_cwSW na hts hG hw hrc hrs hd hR) ⟨World.blind, fun U hU hW => ⟨rfl, World.call hwk hg hP hS hU hW⟩⟩ rfl hna hl.1 hst (lv_room hsum) d hf
  refine vx_calld hrun hS (fun q _ h => h) (fun q h => h) (fun q _ h => h) (fun E ce q9 u t H1 locs1 ht hvm hp hB hz hk1 hS1 h1 h2 h3 => ?_) (fun r u t H1 locs1 ht hvm hw hB hz hk1 hS1 => ?_)
  · obtain ⟨E1, u⟩ := u
    obtain ⟨rfl, hB⟩ := hB
    exact kx E u hp H1 locs1 ls q9 ce (by rw [← ht]; exact hB) hS1 hl h1 h2 h3
  · have hp := hw
    exact kk r u hp H1 locs1 ls (by rw [← ht]; exact hB) hS1 hl

theorem V_callV_V (X : Cx g p l R s m args meth c cc nL own Ts) {ci N : Nat} {T : u_T} {C : String} (b0 : Nat) (hb0 : b0 < 112) (hkd : kd b0 = ci) (h8 : ci < 8) (hc : vwCl[ci]? = some (C, T, N)) {y : MethodName} {idx maxL mc ms na : Nat} {bytes : ByteArray} {ret : Option FieldType} {ws ws' : List Cond} {rm : Room} {As : List Value} {post : St → Prop} (hM : Met l y ws rm (va_Pc (.ref (ga g b0) :: As) (World g σ)) (QV g post) mc ms (gA g)) (hG : GoodIn Ts (wsV own idx C y ws)) (hw : ws = Cond.code y bytes maxL ret :: ws') (hrc : rm.cells = mc) (hrs : rm.slots = ms) (hd : y.cls = C ∧ y.cls ≠ "java/lang/invoke/MethodHandle" ∧ y.cls ≠ "java/lang/invoke/VarHandle" ∧ (parseMethodDescriptor y.desc).map (fun d => d.parameters.length) = some na) (hR : rm.frames + 1 ≤ R.frames ∧ 8 + (maxL + 11) + rm.locals ≤ R.locals) (hna : As.length = na) (hst : st = As.reverse ++ .ref (ga g b0) :: rest) (hsum : (rest.map fun v => v.category).sum ≤ 8) (hf : k + mc ≤ R.cells ∧ n + ms ≤ R.slots) (d : decode cc pc = .ok (.invokevirtual idx, 3)) (kk : ∀ (u : St), post u → V g p l e R s m args below meth c nL (k + mc) (n + ms) Q u (pc + 3) lv (rest)) : V g p l e R s m args below meth c nL k n Q σ pc lv st := by
  obtain ⟨⟨hx, hb, hml, hown, hts⟩, hwk, hg, hl9, hlk⟩ := X
  intro H locs ls hP hS hl
  have he : (cells g σ)[b0]? = some (ga g b0, .inr (ci, flds g (σ.1 b0) ci b0)) := by rw [cells_at hb0, cL_obj hkd h8]
  have hrun := va_runV (p := p) (l := l) (e := e) (R := R) (s := s) (m := m) (args := args) (below := below) (meth := meth) (c := c) (H := H) (locs := locs) (cells := k) (slots := n) (g := F0 m pc ls st) (rest := rest) (As := As) ⟨hx, hb, hml, hown, hts⟩ hM (cwV na hts hG hw hrc hrs hd hR) ⟨World.blind, va_recv hwk.1 hP (q0 := b0) hc he, fun U hU hW => ⟨rfl, World.call hwk hg hP hS hU hW⟩⟩ rfl hna hl.1 hst (lv_room hsum) d hf
  refine va_callv hrun hS (fun q _ h => h) (fun q h => h) (fun u t H1 locs1 ht hvm hw hB hz hk1 hS1 => ?_)
  have hp := hw
  exact kk u hp H1 locs1 ls (by rw [← ht]; exact hB) hS1 hl

theorem V_callV_Vx (X : Cx g p l R s m args meth c cc nL own Ts) {ci N : Nat} {T : u_T} {C : String} (b0 : Nat) (hb0 : b0 < 112) (hkd : kd b0 = ci) (h8 : ci < 8) (hc : vwCl[ci]? = some (C, T, N)) {y : MethodName} {idx maxL mc ms na : Nat} {bytes : ByteArray} {ret : Option FieldType} {ws ws' : List Cond} {rm : Room} {As : List Value} {post : St → Prop} {px : String → St → Prop} (hM : vx_Met l y ws rm (va_Pc (.ref (ga g b0) :: As) (World g σ)) (QV g post) (XT g px) mc ms (gA g)) (hG : GoodIn Ts (wsV own idx C y ws)) (hw : ws = Cond.code y bytes maxL ret :: ws') (hrc : rm.cells = mc) (hrs : rm.slots = ms) (hd : y.cls = C ∧ y.cls ≠ "java/lang/invoke/MethodHandle" ∧ y.cls ≠ "java/lang/invoke/VarHandle" ∧ (parseMethodDescriptor y.desc).map (fun d => d.parameters.length) = some na) (hR : rm.frames + 1 ≤ R.frames ∧ 8 + (maxL + 11) + rm.locals ≤ R.locals) (hna : As.length = na) (hst : st = As.reverse ++ .ref (ga g b0) :: rest) (hsum : (rest.map fun v => v.category).sum ≤ 8) (hf : k + mc ≤ R.cells ∧ n + ms ≤ R.slots) (d : decode cc pc = .ok (.invokevirtual idx, 3)) (kx : ∀ (E : String) (u : St), px E u → VX g p l e R s m args below meth c nL (k + mc) (n + ms) Q u E pc lv rest) (kk : ∀ (u : St), post u → V g p l e R s m args below meth c nL (k + mc) (n + ms) Q u (pc + 3) lv (rest)) : V g p l e R s m args below meth c nL k n Q σ pc lv st := by
  obtain ⟨⟨hx, hb, hml, hown, hts⟩, hwk, hg, hl9, hlk⟩ := X
  intro H locs ls hP hS hl
  have he : (cells g σ)[b0]? = some (ga g b0, .inr (ci, flds g (σ.1 b0) ci b0)) := by rw [cells_at hb0, cL_obj hkd h8]
  have hrun := vx_runV (p := p) (l := l) (e := e) (R := R) (s := s) (m := m) (args := args) (below := below) (meth := meth) (c := c) (H := H) (locs := locs) (cells := k) (slots := n) (g := F0 m pc ls st) (rest := rest) (As := As) ⟨hx, hb, hml, hown, hts⟩ hM (cwV na hts hG hw hrc hrs hd hR) ⟨World.blind, va_recv hwk.1 hP (q0 := b0) hc he, fun U hU hW => ⟨rfl, World.call hwk hg hP hS hU hW⟩⟩ rfl hna hl.1 hst (lv_room hsum) d hf
  refine vx_callv hrun hS (fun q _ h => h) (fun q h => h) (fun q _ h => h) (fun E ce q9 u t H1 locs1 ht hvm hp hB hz hk1 hS1 h1 h2 h3 => ?_) (fun u t H1 locs1 ht hvm hw hB hz hk1 hS1 => ?_)
  · obtain ⟨E1, u⟩ := u
    obtain ⟨rfl, hB⟩ := hB
    exact kx E u hp H1 locs1 ls q9 ce (by rw [← ht]; exact hB) hS1 hl h1 h2 h3
  · have hp := hw
    exact kk u hp H1 locs1 ls (by rw [← ht]; exact hB) hS1 hl

theorem V_callS_V (X : Cx g p l R s m args meth c cc nL own Ts) {y : MethodName} {idx maxL mc ms na : Nat} {bytes : ByteArray} {ret : Option FieldType} {ws ws' : List Cond} {rm : Room} {As : List Value} {post : St → Prop} (hM : Met l y ws rm (va_Pc (As) (World g σ)) (QV g post) mc ms (gA g)) (hG : GoodIn Ts (va_wsS own idx y ws)) (hw : ws = Cond.code y bytes maxL ret :: ws') (hrc : rm.cells = mc) (hrs : rm.slots = ms) (hd : y.cls ≠ "java/lang/invoke/MethodHandle" ∧ y.cls ≠ "java/lang/invoke/VarHandle" ∧ (parseMethodDescriptor y.desc).map (fun d => d.parameters.length) = some na) (hR : rm.frames + 1 ≤ R.frames ∧ 8 + (maxL + 11) + rm.locals ≤ R.locals) (hna : As.length = na) (hst : st = As.reverse ++ rest) (hsum : (rest.map fun v => v.category).sum ≤ 8) (hf : k + mc ≤ R.cells ∧ n + ms ≤ R.slots) (d : decode cc pc = .ok (.invokestatic idx, 3)) (kk : ∀ (u : St), post u → V g p l e R s m args below meth c nL (k + mc) (n + ms) Q u (pc + 3) lv (rest)) : V g p l e R s m args below meth c nL k n Q σ pc lv st := by
  obtain ⟨⟨hx, hb, hml, hown, hts⟩, hwk, hg, hl9, hlk⟩ := X
  intro H locs ls hP hS hl
  have hrun := va_runS (p := p) (l := l) (e := e) (R := R) (s := s) (m := m) (args := args) (below := below) (meth := meth) (c := c) (H := H) (locs := locs) (cells := k) (slots := n) (g := F0 m pc ls st) (rest := rest) (As := As) ⟨hx, hb, hml, hown, hts⟩ hM (va_cwS na hts hG hw hrc hrs hd hR) ⟨World.blind, fun U hU hW => ⟨rfl, World.call hwk hg hP hS hU hW⟩⟩ rfl hna hl.1 hst (lv_room hsum) d hf
  refine va_callv hrun hS (fun q _ h => h) (fun q h => h) (fun u t H1 locs1 ht hvm hw hB hz hk1 hS1 => ?_)
  have hp := hw
  exact kk u hp H1 locs1 ls (by rw [← ht]; exact hB) hS1 hl

theorem V_callS_Vx (X : Cx g p l R s m args meth c cc nL own Ts) {y : MethodName} {idx maxL mc ms na : Nat} {bytes : ByteArray} {ret : Option FieldType} {ws ws' : List Cond} {rm : Room} {As : List Value} {post : St → Prop} {px : String → St → Prop} (hM : vx_Met l y ws rm (va_Pc (As) (World g σ)) (QV g post) (XT g px) mc ms (gA g)) (hG : GoodIn Ts (va_wsS own idx y ws)) (hw : ws = Cond.code y bytes maxL ret :: ws') (hrc : rm.cells = mc) (hrs : rm.slots = ms) (hd : y.cls ≠ "java/lang/invoke/MethodHandle" ∧ y.cls ≠ "java/lang/invoke/VarHandle" ∧ (parseMethodDescriptor y.desc).map (fun d => d.parameters.length) = some na) (hR : rm.frames + 1 ≤ R.frames ∧ 8 + (maxL + 11) + rm.locals ≤ R.locals) (hna : As.length = na) (hst : st = As.reverse ++ rest) (hsum : (rest.map fun v => v.category).sum ≤ 8) (hf : k + mc ≤ R.cells ∧ n + ms ≤ R.slots) (d : decode cc pc = .ok (.invokestatic idx, 3)) (kx : ∀ (E : String) (u : St), px E u → VX g p l e R s m args below meth c nL (k + mc) (n + ms) Q u E pc lv rest) (kk : ∀ (u : St), post u → V g p l e R s m args below meth c nL (k + mc) (n + ms) Q u (pc + 3) lv (rest)) : V g p l e R s m args below meth c nL k n Q σ pc lv st := by
  obtain ⟨⟨hx, hb, hml, hown, hts⟩, hwk, hg, hl9, hlk⟩ := X
  intro H locs ls hP hS hl
  have hrun := vx_runS (p := p) (l := l) (e := e) (R := R) (s := s) (m := m) (args := args) (below := below) (meth := meth) (c := c) (H := H) (locs := locs) (cells := k) (slots := n) (g := F0 m pc ls st) (rest := rest) (As := As) ⟨hx, hb, hml, hown, hts⟩ hM (va_cwS na hts hG hw hrc hrs hd hR) ⟨World.blind, fun U hU hW => ⟨rfl, World.call hwk hg hP hS hU hW⟩⟩ rfl hna hl.1 hst (lv_room hsum) d hf
  refine vx_callv hrun hS (fun q _ h => h) (fun q h => h) (fun q _ h => h) (fun E ce q9 u t H1 locs1 ht hvm hp hB hz hk1 hS1 h1 h2 h3 => ?_) (fun u t H1 locs1 ht hvm hw hB hz hk1 hS1 => ?_)
  · obtain ⟨E1, u⟩ := u
    obtain ⟨rfl, hB⟩ := hB
    exact kx E u hp H1 locs1 ls q9 ce (by rw [← ht]; exact hB) hS1 hl h1 h2 h3
  · have hp := hw
    exact kk u hp H1 locs1 ls (by rw [← ht]; exact hB) hS1 hl

theorem V_callS_Vw (X : Cx g p l R s m args meth c cc nL own Ts) {hh : List (Nat × Nat × Nat × Nat)} {y : MethodName} {idx maxL mc ms na : Nat} {bytes : ByteArray} {ret : Option FieldType} {ws ws' : List Cond} {rm : Room} {As : List Value} {post : St → Prop} {px : String → St → Prop} (hM : vx_Met l y ws rm (va_Pc (As) (World g σ)) (QV g post) (XT g px) mc ms (gA g)) (hG : GoodIn Ts (va_wsS own idx y ws)) (hw : ws = Cond.codeWith y bytes maxL ret hh :: ws') (hrc : rm.cells = mc) (hrs : rm.slots = ms) (hd : y.cls ≠ "java/lang/invoke/MethodHandle" ∧ y.cls ≠ "java/lang/invoke/VarHandle" ∧ (parseMethodDescriptor y.desc).map (fun d => d.parameters.length) = some na) (hR : rm.frames + 1 ≤ R.frames ∧ 8 + (maxL + 11) + rm.locals ≤ R.locals) (hna : As.length = na) (hst : st = As.reverse ++ rest) (hsum : (rest.map fun v => v.category).sum ≤ 8) (hf : k + mc ≤ R.cells ∧ n + ms ≤ R.slots) (d : decode cc pc = .ok (.invokestatic idx, 3)) (kx : ∀ (E : String) (u : St), px E u → VX g p l e R s m args below meth c nL (k + mc) (n + ms) Q u E pc lv rest) (kk : ∀ (u : St), post u → V g p l e R s m args below meth c nL (k + mc) (n + ms) Q u (pc + 3) lv (rest)) : V g p l e R s m args below meth c nL k n Q σ pc lv st := by
  obtain ⟨⟨hx, hb, hml, hown, hts⟩, hwk, hg, hl9, hlk⟩ := X
  intro H locs ls hP hS hl
  have hrun := vx_runSX (p := p) (l := l) (e := e) (R := R) (s := s) (m := m) (args := args) (below := below) (meth := meth) (c := c) (H := H) (locs := locs) (cells := k) (slots := n) (g := F0 m pc ls st) (rest := rest) (As := As) ⟨hx, hb, hml, hown, hts⟩ hM (vx_cwSW na hts hG hw hrc hrs hd hR) ⟨World.blind, fun U hU hW => ⟨rfl, World.call hwk hg hP hS hU hW⟩⟩ rfl hna hl.1 hst (lv_room hsum) d hf
  refine vx_callv hrun hS (fun q _ h => h) (fun q h => h) (fun q _ h => h) (fun E ce q9 u t H1 locs1 ht hvm hp hB hz hk1 hS1 h1 h2 h3 => ?_) (fun u t H1 locs1 ht hvm hw hB hz hk1 hS1 => ?_)
  · obtain ⟨E1, u⟩ := u
    obtain ⟨rfl, hB⟩ := hB
    exact kx E u hp H1 locs1 ls q9 ce (by rw [← ht]; exact hB) hS1 hl h1 h2 h3
  · have hp := hw
    exact kk u hp H1 locs1 ls (by rw [← ht]; exact hB) hS1 hl

theorem V_callV_R (X : Cx g p l R s m args meth c cc nL own Ts) {ci N : Nat} {T : u_T} {C : String} (b0 : Nat) (hb0 : b0 < 112) (hkd : kd b0 = ci) (h8 : ci < 8) (hc : vwCl[ci]? = some (C, T, N)) {y : MethodName} {idx maxL mc ms na : Nat} {bytes : ByteArray} {ret : Option FieldType} {ws ws' : List Cond} {rm : Room} {As : List Value} {post : Nat → St → Prop} (hM : Met l y ws rm (va_Pc (.ref (ga g b0) :: As) (World g σ)) (QR g post) mc ms (gA g)) (hG : GoodIn Ts (wsV own idx C y ws)) (hw : ws = Cond.code y bytes maxL ret :: ws') (hrc : rm.cells = mc) (hrs : rm.slots = ms) (hd : y.cls = C ∧ y.cls ≠ "java/lang/invoke/MethodHandle" ∧ y.cls ≠ "java/lang/invoke/VarHandle" ∧ (parseMethodDescriptor y.desc).map (fun d => d.parameters.length) = some na) (hR : rm.frames + 1 ≤ R.frames ∧ 8 + (maxL + 11) + rm.locals ≤ R.locals) (hna : As.length = na) (hst : st = As.reverse ++ .ref (ga g b0) :: rest) (hsum : (rest.map fun v => v.category).sum ≤ 8) (hf : k + mc ≤ R.cells ∧ n + ms ≤ R.slots) (d : decode cc pc = .ok (.invokevirtual idx, 3)) (kk : ∀ (b : Nat) (u : St), post b u → V g p l e R s m args below meth c nL (k + mc) (n + ms) Q u (pc + 3) lv (.ref (ga g b) :: rest)) : V g p l e R s m args below meth c nL k n Q σ pc lv st := by
  obtain ⟨⟨hx, hb, hml, hown, hts⟩, hwk, hg, hl9, hlk⟩ := X
  intro H locs ls hP hS hl
  have he : (cells g σ)[b0]? = some (ga g b0, .inr (ci, flds g (σ.1 b0) ci b0)) := by rw [cells_at hb0, cL_obj hkd h8]
  have hrun := va_runV (p := p) (l := l) (e := e) (R := R) (s := s) (m := m) (args := args) (below := below) (meth := meth) (c := c) (H := H) (locs := locs) (cells := k) (slots := n) (g := F0 m pc ls st) (rest := rest) (As := As) ⟨hx, hb, hml, hown, hts⟩ hM (cwV na hts hG hw hrc hrs hd hR) ⟨World.blind, va_recv hwk.1 hP (q0 := b0) hc he, fun U hU hW => ⟨rfl, World.call hwk hg hP hS hU hW⟩⟩ rfl hna hl.1 hst (lv_room hsum) d hf
  refine va_callq hrun hS (fun q _ h => h) (fun q h => h) (fun r u0 t H1 locs1 ht hvm hw hB hz hk1 hS1 => ?_)
  obtain ⟨u, b⟩ := u0
  obtain ⟨rfl, hp⟩ := hw
  exact kk b u hp H1 locs1 ls (by rw [← ht]; exact hB) hS1 hl

theorem V_callV_Rx (X : Cx g p l R s m args meth c cc nL own Ts) {ci N : Nat} {T : u_T} {C : String} (b0 : Nat) (hb0 : b0 < 112) (hkd : kd b0 = ci) (h8 : ci < 8) (hc : vwCl[ci]? = some (C, T, N)) {y : MethodName} {idx maxL mc ms na : Nat} {bytes : ByteArray} {ret : Option FieldType} {ws ws' : List Cond} {rm : Room} {As : List Value} {post : Nat → St → Prop} {px : String → St → Prop} (hM : vx_Met l y ws rm (va_Pc (.ref (ga g b0) :: As) (World g σ)) (QR g post) (XT g px) mc ms (gA g)) (hG : GoodIn Ts (wsV own idx C y ws)) (hw : ws = Cond.code y bytes maxL ret :: ws') (hrc : rm.cells = mc) (hrs : rm.slots = ms) (hd : y.cls = C ∧ y.cls ≠ "java/lang/invoke/MethodHandle" ∧ y.cls ≠ "java/lang/invoke/VarHandle" ∧ (parseMethodDescriptor y.desc).map (fun d => d.parameters.length) = some na) (hR : rm.frames + 1 ≤ R.frames ∧ 8 + (maxL + 11) + rm.locals ≤ R.locals) (hna : As.length = na) (hst : st = As.reverse ++ .ref (ga g b0) :: rest) (hsum : (rest.map fun v => v.category).sum ≤ 8) (hf : k + mc ≤ R.cells ∧ n + ms ≤ R.slots) (d : decode cc pc = .ok (.invokevirtual idx, 3)) (kx : ∀ (E : String) (u : St), px E u → VX g p l e R s m args below meth c nL (k + mc) (n + ms) Q u E pc lv rest) (kk : ∀ (b : Nat) (u : St), post b u → V g p l e R s m args below meth c nL (k + mc) (n + ms) Q u (pc + 3) lv (.ref (ga g b) :: rest)) : V g p l e R s m args below meth c nL k n Q σ pc lv st := by
  obtain ⟨⟨hx, hb, hml, hown, hts⟩, hwk, hg, hl9, hlk⟩ := X
  intro H locs ls hP hS hl
  have he : (cells g σ)[b0]? = some (ga g b0, .inr (ci, flds g (σ.1 b0) ci b0)) := by rw [cells_at hb0, cL_obj hkd h8]
  have hrun := vx_runV (p := p) (l := l) (e := e) (R := R) (s := s) (m := m) (args := args) (below := below) (meth := meth) (c := c) (H := H) (locs := locs) (cells := k) (slots := n) (g := F0 m pc ls st) (rest := rest) (As := As) ⟨hx, hb, hml, hown, hts⟩ hM (cwV na hts hG hw hrc hrs hd hR) ⟨World.blind, va_recv hwk.1 hP (q0 := b0) hc he, fun U hU hW => ⟨rfl, World.call hwk hg hP hS hU hW⟩⟩ rfl hna hl.1 hst (lv_room hsum) d hf
  refine vx_callq hrun hS (fun q _ h => h) (fun q h => h) (fun q _ h => h) (fun E ce q9 u t H1 locs1 ht hvm hp hB hz hk1 hS1 h1 h2 h3 => ?_) (fun r u0 t H1 locs1 ht hvm hw hB hz hk1 hS1 => ?_)
  · obtain ⟨E1, u⟩ := u
    obtain ⟨rfl, hB⟩ := hB
    exact kx E u hp H1 locs1 ls q9 ce (by rw [← ht]; exact hB) hS1 hl h1 h2 h3
  · obtain ⟨u, b⟩ := u0
    obtain ⟨rfl, hp⟩ := hw
    exact kk b u hp H1 locs1 ls (by rw [← ht]; exact hB) hS1 hl

theorem V_callS_R (X : Cx g p l R s m args meth c cc nL own Ts) {y : MethodName} {idx maxL mc ms na : Nat} {bytes : ByteArray} {ret : Option FieldType} {ws ws' : List Cond} {rm : Room} {As : List Value} {post : Nat → St → Prop} (hM : Met l y ws rm (va_Pc (As) (World g σ)) (QR g post) mc ms (gA g)) (hG : GoodIn Ts (va_wsS own idx y ws)) (hw : ws = Cond.code y bytes maxL ret :: ws') (hrc : rm.cells = mc) (hrs : rm.slots = ms) (hd : y.cls ≠ "java/lang/invoke/MethodHandle" ∧ y.cls ≠ "java/lang/invoke/VarHandle" ∧ (parseMethodDescriptor y.desc).map (fun d => d.parameters.length) = some na) (hR : rm.frames + 1 ≤ R.frames ∧ 8 + (maxL + 11) + rm.locals ≤ R.locals) (hna : As.length = na) (hst : st = As.reverse ++ rest) (hsum : (rest.map fun v => v.category).sum ≤ 8) (hf : k + mc ≤ R.cells ∧ n + ms ≤ R.slots) (d : decode cc pc = .ok (.invokestatic idx, 3)) (kk : ∀ (b : Nat) (u : St), post b u → V g p l e R s m args below meth c nL (k + mc) (n + ms) Q u (pc + 3) lv (.ref (ga g b) :: rest)) : V g p l e R s m args below meth c nL k n Q σ pc lv st := by
  obtain ⟨⟨hx, hb, hml, hown, hts⟩, hwk, hg, hl9, hlk⟩ := X
  intro H locs ls hP hS hl
  have hrun := va_runS (p := p) (l := l) (e := e) (R := R) (s := s) (m := m) (args := args) (below := below) (meth := meth) (c := c) (H := H) (locs := locs) (cells := k) (slots := n) (g := F0 m pc ls st) (rest := rest) (As := As) ⟨hx, hb, hml, hown, hts⟩ hM (va_cwS na hts hG hw hrc hrs hd hR) ⟨World.blind, fun U hU hW => ⟨rfl, World.call hwk hg hP hS hU hW⟩⟩ rfl hna hl.1 hst (lv_room hsum) d hf
  refine va_callq hrun hS (fun q _ h => h) (fun q h => h) (fun r u0 t H1 locs1 ht hvm hw hB hz hk1 hS1 => ?_)
  obtain ⟨u, b⟩ := u0
  obtain ⟨rfl, hp⟩ := hw
  exact kk b u hp H1 locs1 ls (by rw [← ht]; exact hB) hS1 hl

theorem V_callS_Rx (X : Cx g p l R s m args meth c cc nL own Ts) {y : MethodName} {idx maxL mc ms na : Nat} {bytes : ByteArray} {ret : Option FieldType} {ws ws' : List Cond} {rm : Room} {As : List Value} {post : Nat → St → Prop} {px : String → St → Prop} (hM : vx_Met l y ws rm (va_Pc (As) (World g σ)) (QR g post) (XT g px) mc ms (gA g)) (hG : GoodIn Ts (va_wsS own idx y ws)) (hw : ws = Cond.code y bytes maxL ret :: ws') (hrc : rm.cells = mc) (hrs : rm.slots = ms) (hd : y.cls ≠ "java/lang/invoke/MethodHandle" ∧ y.cls ≠ "java/lang/invoke/VarHandle" ∧ (parseMethodDescriptor y.desc).map (fun d => d.parameters.length) = some na) (hR : rm.frames + 1 ≤ R.frames ∧ 8 + (maxL + 11) + rm.locals ≤ R.locals) (hna : As.length = na) (hst : st = As.reverse ++ rest) (hsum : (rest.map fun v => v.category).sum ≤ 8) (hf : k + mc ≤ R.cells ∧ n + ms ≤ R.slots) (d : decode cc pc = .ok (.invokestatic idx, 3)) (kx : ∀ (E : String) (u : St), px E u → VX g p l e R s m args below meth c nL (k + mc) (n + ms) Q u E pc lv rest) (kk : ∀ (b : Nat) (u : St), post b u → V g p l e R s m args below meth c nL (k + mc) (n + ms) Q u (pc + 3) lv (.ref (ga g b) :: rest)) : V g p l e R s m args below meth c nL k n Q σ pc lv st := by
  obtain ⟨⟨hx, hb, hml, hown, hts⟩, hwk, hg, hl9, hlk⟩ := X
  intro H locs ls hP hS hl
  have hrun := vx_runS (p := p) (l := l) (e := e) (R := R) (s := s) (m := m) (args := args) (below := below) (meth := meth) (c := c) (H := H) (locs := locs) (cells := k) (slots := n) (g := F0 m pc ls st) (rest := rest) (As := As) ⟨hx, hb, hml, hown, hts⟩ hM (va_cwS na hts hG hw hrc hrs hd hR) ⟨World.blind, fun U hU hW => ⟨rfl, World.call hwk hg hP hS hU hW⟩⟩ rfl hna hl.1 hst (lv_room hsum) d hf
  refine vx_callq hrun hS (fun q _ h => h) (fun q h => h) (fun q _ h => h) (fun E ce q9 u t H1 locs1 ht hvm hp hB hz hk1 hS1 h1 h2 h3 => ?_) (fun r u0 t H1 locs1 ht hvm hw hB hz hk1 hS1 => ?_)
  · obtain ⟨E1, u⟩ := u
    obtain ⟨rfl, hB⟩ := hB
    exact kx E u hp H1 locs1 ls q9 ce (by rw [← ht]; exact hB) hS1 hl h1 h2 h3
  · obtain ⟨u, b⟩ := u0
    obtain ⟨rfl, hp⟩ := hw
    exact kk b u hp H1 locs1 ls (by rw [← ht]; exact hB) hS1 hl

theorem V_callS_Rw (X : Cx g p l R s m args meth c cc nL own Ts) {hh : List (Nat × Nat × Nat × Nat)} {y : MethodName} {idx maxL mc ms na : Nat} {bytes : ByteArray} {ret : Option FieldType} {ws ws' : List Cond} {rm : Room} {As : List Value} {post : Nat → St → Prop} {px : String → St → Prop} (hM : vx_Met l y ws rm (va_Pc (As) (World g σ)) (QR g post) (XT g px) mc ms (gA g)) (hG : GoodIn Ts (va_wsS own idx y ws)) (hw : ws = Cond.codeWith y bytes maxL ret hh :: ws') (hrc : rm.cells = mc) (hrs : rm.slots = ms) (hd : y.cls ≠ "java/lang/invoke/MethodHandle" ∧ y.cls ≠ "java/lang/invoke/VarHandle" ∧ (parseMethodDescriptor y.desc).map (fun d => d.parameters.length) = some na) (hR : rm.frames + 1 ≤ R.frames ∧ 8 + (maxL + 11) + rm.locals ≤ R.locals) (hna : As.length = na) (hst : st = As.reverse ++ rest) (hsum : (rest.map fun v => v.category).sum ≤ 8) (hf : k + mc ≤ R.cells ∧ n + ms ≤ R.slots) (d : decode cc pc = .ok (.invokestatic idx, 3)) (kx : ∀ (E : String) (u : St), px E u → VX g p l e R s m args below meth c nL (k + mc) (n + ms) Q u E pc lv rest) (kk : ∀ (b : Nat) (u : St), post b u → V g p l e R s m args below meth c nL (k + mc) (n + ms) Q u (pc + 3) lv (.ref (ga g b) :: rest)) : V g p l e R s m args below meth c nL k n Q σ pc lv st := by
  obtain ⟨⟨hx, hb, hml, hown, hts⟩, hwk, hg, hl9, hlk⟩ := X
  intro H locs ls hP hS hl
  have hrun := vx_runSX (p := p) (l := l) (e := e) (R := R) (s := s) (m := m) (args := args) (below := below) (meth := meth) (c := c) (H := H) (locs := locs) (cells := k) (slots := n) (g := F0 m pc ls st) (rest := rest) (As := As) ⟨hx, hb, hml, hown, hts⟩ hM (vx_cwSW na hts hG hw hrc hrs hd hR) ⟨World.blind, fun U hU hW => ⟨rfl, World.call hwk hg hP hS hU hW⟩⟩ rfl hna hl.1 hst (lv_room hsum) d hf
  refine vx_callq hrun hS (fun q _ h => h) (fun q h => h) (fun q _ h => h) (fun E ce q9 u t H1 locs1 ht hvm hp hB hz hk1 hS1 h1 h2 h3 => ?_) (fun r u0 t H1 locs1 ht hvm hw hB hz hk1 hS1 => ?_)
  · obtain ⟨E1, u⟩ := u
    obtain ⟨rfl, hB⟩ := hB
    exact kx E u hp H1 locs1 ls q9 ce (by rw [← ht]; exact hB) hS1 hl h1 h2 h3
  · obtain ⟨u, b⟩ := u0
    obtain ⟨rfl, hp⟩ := hw
    exact kk b u hp H1 locs1 ls (by rw [← ht]; exact hB) hS1 hl


/-- an exception leaves the method -/
theorem VX_out {E : String} {px : String → St → Prop} {Qc : Array Value → State → Outcome → State → Prop} {mc ms : Nat} (X : Cx g p l R s m args meth c cc nL own Ts) (hno : ∀ x ∈ c.exceptionTable.toList, False) (hp : px E σ) (hk : k ≤ mc) (hn : n ≤ ms) : VX g p l e R s m args below meth c nL k n (vx_MQ below Qc (XT g px) args s mc ms (gA g)) σ E pc lv st := by
  obtain ⟨⟨hx, hb, hml, hown, hts⟩, hwk, hg, hl9, hlk⟩ := X
  intro H locs ls q ce hP hS hl h1 h2 h3
  exact vx_out (fun x hx => (hno x hx).elim) hlk h1 h2 h3 (fun t ht hvm => ⟨(E, σ), hp, ⟨rfl, by unfold Bw; rw [ht]; exact hP⟩, hS.F ht⟩) hS.2.2 hk hn
/-- throw new X("text") -/
theorem V_throw {cls text : String} {ik is ic mc ms : Nat} {px : String → St → Prop} {Qc : Array Value → State → Outcome → State → Prop} (X : Cx g p l R s m args meth c cc nL own Ts) (hno : ∀ x ∈ c.exceptionTable.toList, False) (hown2 : own = "Ghostracer") (htx : (is, text) ∈ texts) (hcls : Bundle.fit cls = true)
    (hk : Cond.classLink own ik cls ∈ Ts) (hini : Cond.initialized cls ∈ Ts) (hat : ∀ w ∈ vx_atS own ic cls ["java/lang/RuntimeException", "java/lang/Exception"], goodWord w = true → w ∈ Ts) (hbad : ∀ w ∈ vx_atS own ic cls ["java/lang/RuntimeException", "java/lang/Exception"], goodWord w = true ∨ w = .castable cls cls ∨ w ∈ dcls.map .declares) (hE : cls ∈ excs)
    (hgood : ∀ w ∈ Cond.classLink own ik cls :: Cond.initialized cls :: vx_atS own ic cls ["java/lang/RuntimeException", "java/lang/Exception"], vx_ot w = true)
    (d0 : decode cc pc = .ok (.new ik, 3)) (d3 : decode cc (pc + 3) = .ok (.dup, 1)) (d4 : decode cc (pc + 4) = .ok (.ldc is, 2)) (d6 : decode cc (pc + 6) = .ok (.invokespecial ic, 3)) (d9 : decode cc (pc + 9) = .ok (.athrow, 1))
    (hRf : 5 < R.frames) (hRl : (st.map fun v => v.category).sum + 82 ≤ R.locals) (hRc : k + 1 ≤ R.cells) (hRs : n + 6 ≤ R.slots) (hc1 : k + 1 ≤ mc) (hs1 : n + 6 ≤ ms) (hp : px cls σ) : V g p l e R s m args below meth c nL k n (vx_MQ below Qc (XT g px) args s mc ms (gA g)) σ pc lv st := by
  obtain ⟨⟨hx, hb, hml, hown, hts⟩, hwk, hg, hl9, hlk⟩ := X
  intro H locs ls hP hS hl
  subst hown2
  obtain ⟨sa, hsa⟩ := hwk.2.2.2.1 _ htx
  have hat2 : ∀ w ∈ vx_atS "Ghostracer" ic cls ["java/lang/RuntimeException", "java/lang/Exception"], w.before args s = true := fun w hw => by
    rcases hbad w hw with h | h | h
    · exact hts _ (hat w hw h)
    · rw [h]; exact va_Nw.use rfl (hwk.2.2.2.2.1 cls hE)
    · obtain ⟨x, hx1, rfl⟩ := List.mem_map.mp h
      exact va_Nw.use rfl (hwk.2.2.2.2.2.1 x hx1)
  refine vx_throwS (A := gA g) (text := text) (sa := sa) hx hb hl9 hown hcls (by decide) (hts _ hk) (hts _ hini) hsa hat2 hgood hwk.2.2.1.2.2.1 hwk.2.2.1.2.2.2 hS (hl.1.trans hml.symm) d0 d3 d4 d6 d9 (fun x hx => (hno x hx).elim) hRf hRl hRc hRs hlk (fun t hvm hz hq => ⟨(cls, σ), hp, ⟨rfl, ?_⟩, ?_⟩) hS.2.2 hc1 hs1
  · exact hP.kept (fun k q hk => hq q.1 (hP k q hk).lt)
  · exact ⟨Nat.le_trans hS.1 hz, fun q h1 h2 => (hq q (Nat.lt_of_lt_of_le h1 hS.1)).trans (hS.2.1 q h1 h2)⟩
theorem V_throwW {cls text : String} {ik is ic mc ms : Nat} {px : String → St → Prop} {Qc : Array Value → State → Outcome → State → Prop} (X : Cx g p l R s m args meth c cc nL own Ts) (hno : ∀ x ∈ c.exceptionTable.toList, False) (hown2 : own = "Ghostracer") (htx : (is, text) ∈ texts) (hcls : Bundle.fit cls = true)
    (hk : Cond.classLink own ik cls ∈ Ts) (hini : Cond.initialized cls ∈ Ts) (hat : ∀ w ∈ vx_atS own ic cls ["java/lang/RuntimeException", "java/lang/Exception"], goodWord w = true → w ∈ Ts) (hbad : ∀ w ∈ vx_atS own ic cls ["java/lang/RuntimeException", "java/lang/Exception"], goodWord w = true ∨ w = .castable cls cls ∨ w ∈ dcls.map .declares) (hE : cls ∈ excs)
    (hgood : ∀ w ∈ Cond.classLink own ik cls :: Cond.initialized cls :: vx_atS own ic cls ["java/lang/RuntimeException", "java/lang/Exception"], vx_ot w = true)
    (d0 : decode cc pc = .ok (.new ik, 3)) (d3 : decode cc (pc + 3) = .ok (.dup, 1)) (d4 : decode cc (pc + 4) = .ok (.ldc_w is, 3)) (d7 : decode cc (pc + 7) = .ok (.invokespecial ic, 3)) (d10 : decode cc (pc + 10) = .ok (.athrow, 1))
    (hRf : 5 < R.frames) (hRl : (st.map fun v => v.category).sum + 82 ≤ R.locals) (hRc : k + 1 ≤ R.cells) (hRs : n + 6 ≤ R.slots) (hc1 : k + 1 ≤ mc) (hs1 : n + 6 ≤ ms) (hp : px cls σ) : V g p l e R s m args below meth c nL k n (vx_MQ below Qc (XT g px) args s mc ms (gA g)) σ pc lv st := by
  obtain ⟨⟨hx, hb, hml, hown, hts⟩, hwk, hg, hl9, hlk⟩ := X
  intro H locs ls hP hS hl
  subst hown2
  obtain ⟨sa, hsa⟩ := hwk.2.2.2.1 _ htx
  have hat2 : ∀ w ∈ vx_atS "Ghostracer" ic cls ["java/lang/RuntimeException", "java/lang/Exception"], w.before args s = true := fun w hw => by
    rcases hbad w hw with h | h | h
    · exact hts _ (hat w hw h)
    · rw [h]; exact va_Nw.use rfl (hwk.2.2.2.2.1 cls hE)
    · obtain ⟨x, hx1, rfl⟩ := List.mem_map.mp h
      exact va_Nw.use rfl (hwk.2.2.2.2.2.1 x hx1)
  refine vx_throwSW (A := gA g) (text := text) (sa := sa) hx hb hl9 hown hcls (by decide) (hts _ hk) (hts _ hini) hsa hat2 hgood hwk.2.2.1.2.2.1 hwk.2.2.1.2.2.2 hS (hl.1.trans hml.symm) d0 d3 d4 d7 d10 (fun x hx => (hno x hx).elim) hRf hRl hRc hRs hlk (fun t hvm hz hq => ⟨(cls, σ), hp, ⟨rfl, ?_⟩, ?_⟩) hS.2.2 hc1 hs1
  · exact hP.kept (fun k q hk => hq q.1 (hP k q hk).lt)
  · exact ⟨Nat.le_trans hS.1 hz, fun q h1 h2 => (hq q (Nat.lt_of_lt_of_le h1 hS.1)).trans (hS.2.1 q h1 h2)⟩
/-- throw new X("text") -/
theorem V_throwN {cls text : String} {ik is ic mc ms : Nat} {px : String → St → Prop} {Qc : Array Value → State → Outcome → State → Prop} (X : Cx g p l R s m args meth c cc nL own Ts) (hno : ∀ x ∈ c.exceptionTable.toList, False) (hown2 : own = "Ghostracer") (htx : (is, text) ∈ texts) (hcls : Bundle.fit cls = true)
    (hk : Cond.classLink own ik cls ∈ Ts) (hini : Cond.initialized cls ∈ Ts) (hat : ∀ w ∈ vx_atN own ic cls ["java/lang/RuntimeException", "java/lang/Exception"], goodWord w = true → w ∈ Ts) (hbad : ∀ w ∈ vx_atN own ic cls ["java/lang/RuntimeException", "java/lang/Exception"], goodWord w = true ∨ w = .castable cls cls ∨ w ∈ dcls.map .declares) (hE : cls ∈ excs)
    (hgood : ∀ w ∈ Cond.classLink own ik cls :: Cond.initialized cls :: vx_atN own ic cls ["java/lang/RuntimeException", "java/lang/Exception"], vx_ot w = true)
    (d0 : decode cc pc = .ok (.new ik, 3)) (d3 : decode cc (pc + 3) = .ok (.dup, 1)) (d4 : decode cc (pc + 4) = .ok (.ldc is, 2)) (d6 : decode cc (pc + 6) = .ok (.invokespecial ic, 3)) (d9 : decode cc (pc + 9) = .ok (.athrow, 1))
    (hRf : 5 < R.frames) (hRl : (st.map fun v => v.category).sum + 82 ≤ R.locals) (hRc : k + 1 ≤ R.cells) (hRs : n + 6 ≤ R.slots) (hc1 : k + 1 ≤ mc) (hs1 : n + 6 ≤ ms) (hp : px cls σ) : V g p l e R s m args below meth c nL k n (vx_MQ below Qc (XT g px) args s mc ms (gA g)) σ pc lv st := by
  obtain ⟨⟨hx, hb, hml, hown, hts⟩, hwk, hg, hl9, hlk⟩ := X
  intro H locs ls hP hS hl
  subst hown2
  obtain ⟨sa, hsa⟩ := hwk.2.2.2.1 _ htx
  have hat2 : ∀ w ∈ vx_atN "Ghostracer" ic cls ["java/lang/RuntimeException", "java/lang/Exception"], w.before args s = true := fun w hw => by
    rcases hbad w hw with h | h | h
    · exact hts _ (hat w hw h)
    · rw [h]; exact va_Nw.use rfl (hwk.2.2.2.2.1 cls hE)
    · obtain ⟨x, hx1, rfl⟩ := List.mem_map.mp h
      exact va_Nw.use rfl (hwk.2.2.2.2.2.1 x hx1)
  refine vn_throwS (A := gA g) (text := text) (sa := sa) hx hb hl9 hown hcls (by decide) (hts _ hk) (hts _ hini) hsa hat2 hgood hwk.2.2.1.2.2.1 hwk.2.2.1.2.2.2 hS (hl.1.trans hml.symm) d0 d3 d4 d6 d9 (fun x hx => (hno x hx).elim) hRf hRl hRc hRs hlk (fun t hvm hz hq => ⟨(cls, σ), hp, ⟨rfl, ?_⟩, ?_⟩) hS.2.2 hc1 hs1
  · exact hP.kept (fun k q hk => hq q.1 (hP k q hk).lt)
  · exact ⟨Nat.le_trans hS.1 hz, fun q h1 h2 => (hq q (Nat.lt_of_lt_of_le h1 hS.1)).trans (hS.2.1 q h1 h2)⟩
theorem V_throwNW {cls text : String} {ik is ic mc ms : Nat} {px : String → St → Prop} {Qc : Array Value → State → Outcome → State → Prop} (X : Cx g p l R s m args meth c cc nL own Ts) (hno : ∀ x ∈ c.exceptionTable.toList, False) (hown2 : own = "Ghostracer") (htx : (is, text) ∈ texts) (hcls : Bundle.fit cls = true)
    (hk : Cond.classLink own ik cls ∈ Ts) (hini : Cond.initialized cls ∈ Ts) (hat : ∀ w ∈ vx_atN own ic cls ["java/lang/RuntimeException", "java/lang/Exception"], goodWord w = true → w ∈ Ts) (hbad : ∀ w ∈ vx_atN own ic cls ["java/lang/RuntimeException", "java/lang/Exception"], goodWord w = true ∨ w = .castable cls cls ∨ w ∈ dcls.map .declares) (hE : cls ∈ excs)
    (hgood : ∀ w ∈ Cond.classLink own ik cls :: Cond.initialized cls :: vx_atN own ic cls ["java/lang/RuntimeException", "java/lang/Exception"], vx_ot w = true)
    (d0 : decode cc pc = .ok (.new ik, 3)) (d3 : decode cc (pc + 3) = .ok (.dup, 1)) (d4 : decode cc (pc + 4) = .ok (.ldc_w is, 3)) (d7 : decode cc (pc + 7) = .ok (.invokespecial ic, 3)) (d10 : decode cc (pc + 10) = .ok (.athrow, 1))
    (hRf : 5 < R.frames) (hRl : (st.map fun v => v.category).sum + 82 ≤ R.locals) (hRc : k + 1 ≤ R.cells) (hRs : n + 6 ≤ R.slots) (hc1 : k + 1 ≤ mc) (hs1 : n + 6 ≤ ms) (hp : px cls σ) : V g p l e R s m args below meth c nL k n (vx_MQ below Qc (XT g px) args s mc ms (gA g)) σ pc lv st := by
  obtain ⟨⟨hx, hb, hml, hown, hts⟩, hwk, hg, hl9, hlk⟩ := X
  intro H locs ls hP hS hl
  subst hown2
  obtain ⟨sa, hsa⟩ := hwk.2.2.2.1 _ htx
  have hat2 : ∀ w ∈ vx_atN "Ghostracer" ic cls ["java/lang/RuntimeException", "java/lang/Exception"], w.before args s = true := fun w hw => by
    rcases hbad w hw with h | h | h
    · exact hts _ (hat w hw h)
    · rw [h]; exact va_Nw.use rfl (hwk.2.2.2.2.1 cls hE)
    · obtain ⟨x, hx1, rfl⟩ := List.mem_map.mp h
      exact va_Nw.use rfl (hwk.2.2.2.2.2.1 x hx1)
  refine vn_throwSW (A := gA g) (text := text) (sa := sa) hx hb hl9 hown hcls (by decide) (hts _ hk) (hts _ hini) hsa hat2 hgood hwk.2.2.1.2.2.1 hwk.2.2.1.2.2.2 hS (hl.1.trans hml.symm) d0 d3 d4 d7 d10 (fun x hx => (hno x hx).elim) hRf hRl hRc hRs hlk (fun t hvm hz hq => ⟨(cls, σ), hp, ⟨rfl, ?_⟩, ?_⟩) hS.2.2 hc1 hs1
  · exact hP.kept (fun k q hk => hq q.1 (hP k q hk).lt)
  · exact ⟨Nat.le_trans hS.1 hz, fun q h1 h2 => (hq q (Nat.lt_of_lt_of_le h1 hS.1)).trans (hS.2.1 q h1 h2)⟩
/-- a handler catches -/
theorem VX_catch {E name : String} (X : Cx g p l R s m args meth c cc nL own Ts) (pre : List ExceptionTableEntry) (x : ExceptionTableEntry) (suf : List ExceptionTableEntry) (hsplit : c.exceptionTable.toList = pre ++ x :: suf)
    (hpass : ∀ z ∈ pre, covers z pc = false ∨ (z.catchType ≠ 0 ∧ ∃ nm : String, Cond.classLink own z.catchType nm ∈ Ts ∧ va_Nc E nm s)) (hx0 : covers x pc = true) (h0 : x.catchType ≠ 0)
    (hlink : Cond.classLink own x.catchType name ∈ Ts) (hcast : Cond.castable E name ∈ Ts)
    (kk : ∀ q : Nat, V g p l e R s m args below meth c nL k n Q σ x.handlerPc lv [.ref q]) : VX g p l e R s m args below meth c nL k n Q σ E pc lv st := by
  obtain ⟨⟨hx, hb, hml, hown, hts⟩, hwk, hg, hl9, hlk⟩ := X
  intro H locs ls q ce hP hS hl h1 h2 h3
  refine vx_catch hown pre x suf hsplit (fun z hz => ?_) hx0 h0 (hts _ hlink) (hts _ hcast) h1 h2 h3 (kk q H locs ls hP hS hl)
  rcases hpass z hz with h | ⟨h, nm, h4, h5⟩
  · exact Or.inl h
  · exact Or.inr ⟨h, nm, hts _ h4, h5⟩
end VC
