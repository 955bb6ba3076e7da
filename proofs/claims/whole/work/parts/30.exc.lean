/-! exceptions: a contract that returns or throws; the throw of the program -/
abbrev XQ (D : va_G) (B : Nat) (postX : String → St → Prop) : String → State → State → Prop := vx_X (fun _ : St => True) (fun E f9 t => postX E f9 ∧ hw D B f9 t.heap) (AB B)
abbrev Kx (l : Launch) (D : va_G) (B : Nat) (K : Nat → ClassId) (y : MethodName) (cc : ByteArray) (n : Nat) (ret : Option FieldType) (lvl mc ms : Nat) (av : List Value) (f : St) (Qc : Array Value → State → Outcome → State → Prop) (postX : String → St → Prop) : Prop := vx_Met l y (ws_ y cc n ret) (RM lvl mc ms) (va_Pc av (Pre D B K f)) Qc (XQ D B postX) mc ms (AB B)
section VX
variable {p : Program} {l : Launch} {e : Env} {R : Room} {s : State} {m : MethodId} {args : Array Value} {below : List Frame} {meth : Method} {c : Code} {D : va_G} {B nL : Nat} {Q : State → Prop} {ce sl : Nat} {f : St} {lv : Lv} {pc : Nat} {st : List Value} {cc : ByteArray} {own : String} {K : Nat → ClassId}
theorem v_metX {y : MethodName} {ret : Option FieldType} {rm : Room} {Qc : Array Value → State → Outcome → State → Prop} {XC : String → State → State → Prop} {mc ms : Nat} {av : List Value} (lv0 : List (Nat × Value)) (hy : plainName y.cls = true) (hlen : (lg_sl av).length ≤ nL) (hlv : lv_args 0 av = lv0)
    (body : ∀ (p : Program) (e : Env) (s : State) (m : MethodId) (args : Array Value) (below : List Frame) (meth : Method) (c : Code), Cx p s m args c cc nL y.cls D B K → meth.sig.returnType = ret → meth.locks = false → (∀ x ∈ c.exceptionTable.toList, False) → V p l e rm s m args below meth c D B nL (vx_MQ below Qc XC args s mc ms (AB B)) 0 0 f (lof lv0) 0 []) :
    vx_Met l y (ws_ y cc nL ret) rm (va_Pc av (Pre D B K f)) Qc XC mc ms (AB B) := by
  refine vx_ofW (cc := cc) (maxL := nL) (ret := ret) hy rfl ?_
  intro p e s m args below meth c s₁ Bd hml htab hv
  obtain ⟨rfl, hP, hK, hB, hN⟩ := hv
  have hts := atoms_spec (ws := ws_ y cc nL ret) Bd.pre
  have hown : s.vm.findClass y.cls = some m.cls := findClass_of_methodNamed Bd.named
  have C : Cx p s m av.toArray c cc nL y.cls D B K := ⟨Bd.exec, Bd.bytes, hml, hown, fun w hw => hts w (List.mem_cons_of_mem _ hw), hK, hB, hN⟩
  have hl := lv_entry av (n := nL) hlen
  rw [lg_entry_eq]
  generalize (lg_sl av ++ List.replicate (nL - (lg_sl av).length) Slot.unset).toArray = ls at hl ⊢
  rw [hlv] at hl
  exact body p e s m _ below meth c C Bd.returns Bd.notSynchronized htab s.heap [] ls hP va_S.rf (lh_of hl)
theorem v_throw (C : Cx p s m args c cc nL RX8 D B K) (hlT : l.stackTraces = false) {Qc : Array Value → State → Outcome → State → Prop} {postX : String → St → Prop} {cls text : String} {names : List String} {ik is ic mc ms : Nat} (hlk : meth.locks = false) (htab : ∀ x ∈ c.exceptionTable.toList, False)
    (d0 : decode cc pc = .ok (.new ik, 3)) (d3 : decode cc (pc + 3) = .ok (.dup, 1)) (d4 : decode cc (pc + 4) = .ok (.ldc is, 2)) (d6 : decode cc (pc + 6) = .ok (.invokespecial ic, 3)) (d9 : decode cc (pc + 9) = .ok (.athrow, 1))
    (hfc : Bundle.fit cls = true ∧ ∀ n ∈ names, Bundle.fit n = true) (g1 : Cond.classLink RX8 ik cls ∈ GT) (g2 : Cond.initialized cls ∈ GT) (hs9 : (is, text) ∈ strL)
    (ha1 : ∀ w ∈ (vx_atS RX8 ic cls names).filter goodWord, w ∈ GT) (ha2 : ∀ w ∈ (vx_atS RX8 ic cls names).filter (fun w => !goodWord w), w ∈ nbL) (hon : ∀ w ∈ vx_atS RX8 ic cls names, vx_ot w = true) (hon2 : vx_ot (Cond.classLink RX8 ik cls) = true ∧ vx_ot (Cond.initialized cls) = true)
    (hRf : names.length + 3 < R.frames) (hRl : (st.map fun v => v.category).sum + (13 * (names.length + 1) + 43) ≤ R.locals) (hRc : ce + 1 ≤ R.cells) (hRs : sl + 6 ≤ R.slots) (hc : ce + 1 ≤ mc) (hs : sl + 6 ≤ ms) (hX : postX cls f) : V p l e R s m args below meth c D B nL (vx_MQ below Qc (XQ D B postX) args s mc ms (AB B)) ce sl f lv pc st := by
  intro H locs ls h hS hl
  obtain ⟨x1, x2, x3, _⟩ := C.2.2.2.2.2.2.2.2.2.2.2
  obtain ⟨sa, hsa⟩ := x3 _ hs9
  refine vx_throwS (A := AB B) C.1 C.2.1 hlT C.2.2.2.1 hfc.1 hfc.2 (C.2.2.2.2.1 _ g1) (C.2.2.2.2.1 _ g2) hsa
    (vx_hat (fun w hw => C.2.2.2.2.1 _ (ha1 w hw)) ha2 (fun w hw => va_Nw.use ((by decide +kernel : ∀ w ∈ nbL, w.onTables = true) w hw) (C.2.2.2.2.2.2.2.1 w hw)))
    (fun w hw => ?_) x1 x2 hS (by rw [C.2.2.1]; exact hl.1) d0 d3 d4 d6 d9 (fun x hx => (htab x hx).elim) hRf hRl hRc hRs hlk (fun t ha hz hk => ⟨f, trivial, ⟨hX, h.kept hk⟩, Nat.le_trans hS.1 hz, fun q h1 h2 => (hk q (Nat.lt_of_lt_of_le h1 hS.1)).trans (hS.2.1 q h1 h2)⟩) hS.2.2 hc hs
  rcases List.mem_cons.mp hw with q | hw
  · rw [q]; exact hon2.1
  · rcases List.mem_cons.mp hw with q | hw
    · rw [q]; exact hon2.2
    · exact hon w hw
end VX
theorem xa1_A : ∀ w ∈ (vx_atS RX8 108 "java/lang/ArrayIndexOutOfBoundsException" ["java/lang/IndexOutOfBoundsException", "java/lang/RuntimeException", "java/lang/Exception"]).filter goodWord, w ∈ GT := fun w h => gm_of ((by decide +kernel : ∀ w ∈ (vx_atS RX8 108 "java/lang/ArrayIndexOutOfBoundsException" ["java/lang/IndexOutOfBoundsException", "java/lang/RuntimeException", "java/lang/Exception"]).filter goodWord, w ∈ lw_tbl) w h) (List.mem_filter.mp h).2
theorem xa2_A : ∀ w ∈ (vx_atS RX8 108 "java/lang/ArrayIndexOutOfBoundsException" ["java/lang/IndexOutOfBoundsException", "java/lang/RuntimeException", "java/lang/Exception"]).filter (fun w => !goodWord w), w ∈ nbL := by decide +kernel
theorem xa3_A : ∀ w ∈ vx_atS RX8 108 "java/lang/ArrayIndexOutOfBoundsException" ["java/lang/IndexOutOfBoundsException", "java/lang/RuntimeException", "java/lang/Exception"], vx_ot w = true := by decide +kernel
theorem xa4_A : vx_ot (Cond.classLink RX8 104 "java/lang/ArrayIndexOutOfBoundsException") = true ∧ vx_ot (Cond.initialized "java/lang/ArrayIndexOutOfBoundsException") = true := by decide +kernel
theorem xa5_A : Bundle.fit "java/lang/ArrayIndexOutOfBoundsException" = true ∧ ∀ n ∈ (["java/lang/IndexOutOfBoundsException", "java/lang/RuntimeException", "java/lang/Exception"] : List String), Bundle.fit n = true := by decide +kernel
theorem xa1_I : ∀ w ∈ (vx_atS RX8 128 "java/lang/IndexOutOfBoundsException" ["java/lang/RuntimeException", "java/lang/Exception"]).filter goodWord, w ∈ GT := fun w h => gm_of ((by decide +kernel : ∀ w ∈ (vx_atS RX8 128 "java/lang/IndexOutOfBoundsException" ["java/lang/RuntimeException", "java/lang/Exception"]).filter goodWord, w ∈ lw_tbl) w h) (List.mem_filter.mp h).2
theorem xa2_I : ∀ w ∈ (vx_atS RX8 128 "java/lang/IndexOutOfBoundsException" ["java/lang/RuntimeException", "java/lang/Exception"]).filter (fun w => !goodWord w), w ∈ nbL := by decide +kernel
theorem xa3_I : ∀ w ∈ vx_atS RX8 128 "java/lang/IndexOutOfBoundsException" ["java/lang/RuntimeException", "java/lang/Exception"], vx_ot w = true := by decide +kernel
theorem xa4_I : vx_ot (Cond.classLink RX8 124 "java/lang/IndexOutOfBoundsException") = true ∧ vx_ot (Cond.initialized "java/lang/IndexOutOfBoundsException") = true := by decide +kernel
theorem xa5_I : Bundle.fit "java/lang/IndexOutOfBoundsException" = true ∧ ∀ n ∈ (["java/lang/RuntimeException", "java/lang/Exception"] : List String), Bundle.fit n = true := by decide +kernel
theorem xa1_N : ∀ w ∈ (vx_atS RX8 165 "java/lang/NegativeArraySizeException" ["java/lang/RuntimeException", "java/lang/Exception"]).filter goodWord, w ∈ GT := fun w h => gm_of ((by decide +kernel : ∀ w ∈ (vx_atS RX8 165 "java/lang/NegativeArraySizeException" ["java/lang/RuntimeException", "java/lang/Exception"]).filter goodWord, w ∈ lw_tbl) w h) (List.mem_filter.mp h).2
theorem xa2_N : ∀ w ∈ (vx_atS RX8 165 "java/lang/NegativeArraySizeException" ["java/lang/RuntimeException", "java/lang/Exception"]).filter (fun w => !goodWord w), w ∈ nbL := by decide +kernel
theorem xa3_N : ∀ w ∈ vx_atS RX8 165 "java/lang/NegativeArraySizeException" ["java/lang/RuntimeException", "java/lang/Exception"], vx_ot w = true := by decide +kernel
theorem xa4_N : vx_ot (Cond.classLink RX8 161 "java/lang/NegativeArraySizeException") = true ∧ vx_ot (Cond.initialized "java/lang/NegativeArraySizeException") = true := by decide +kernel
theorem xa5_N : Bundle.fit "java/lang/NegativeArraySizeException" = true ∧ ∀ n ∈ (["java/lang/RuntimeException", "java/lang/Exception"] : List String), Bundle.fit n = true := by decide +kernel
theorem xa1_G : ∀ w ∈ (vx_atS RX8 172 "java/lang/IllegalArgumentException" ["java/lang/RuntimeException", "java/lang/Exception"]).filter goodWord, w ∈ GT := fun w h => gm_of ((by decide +kernel : ∀ w ∈ (vx_atS RX8 172 "java/lang/IllegalArgumentException" ["java/lang/RuntimeException", "java/lang/Exception"]).filter goodWord, w ∈ lw_tbl) w h) (List.mem_filter.mp h).2
theorem xa2_G : ∀ w ∈ (vx_atS RX8 172 "java/lang/IllegalArgumentException" ["java/lang/RuntimeException", "java/lang/Exception"]).filter (fun w => !goodWord w), w ∈ nbL := by decide +kernel
theorem xa3_G : ∀ w ∈ vx_atS RX8 172 "java/lang/IllegalArgumentException" ["java/lang/RuntimeException", "java/lang/Exception"], vx_ot w = true := by decide +kernel
theorem xa4_G : vx_ot (Cond.classLink RX8 168 "java/lang/IllegalArgumentException") = true ∧ vx_ot (Cond.initialized "java/lang/IllegalArgumentException") = true := by decide +kernel
theorem xa5_G : Bundle.fit "java/lang/IllegalArgumentException" = true ∧ ∀ n ∈ (["java/lang/RuntimeException", "java/lang/Exception"] : List String), Bundle.fit n = true := by decide +kernel
