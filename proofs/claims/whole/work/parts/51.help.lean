/-! the law's helpers: a call of the program whose throw becomes a number -/
theorem ifp_all {α : Type} {Q : α → Prop} {P : Prop} {a b : α} (ha : Q a) (hb : Q b) : Q (ifp P a b) := by
  by_cases h : P
  · rw [ifp_t h]; exact ha
  · rw [ifp_f h]; exact hb
theorem missM_all {α : Type} {Q : α → Prop} {o : Option (Nat × Ent)} {f : Nat → Ent → α} {b : α} (hf : ∀ k e, Q (f k e)) (hb : Q b) : Q (missM o f b) := by
  cases o with
  | none => exact hb
  | some x => exact hf _ _
abbrev tS (S : AS) : Nat := S.2.2.2.2.2.1.1
abbrev Q01 {α : Type} : Int32 × α × AS → Prop := fun w => w.1 = 0 ∨ w.1 = 1
abbrev Q02 {α : Type} : Int32 × α × AS → Prop := fun w => w.1 = 0 ∨ w.1 = 1 ∨ w.1 = 2
abbrev T3 {α : Type} (S : AS) : Int32 × α × AS → Prop := fun w => tS w.2.2 ≤ tS S + 1
abbrev T2 {α : Type} (S : AS) : α × AS → Prop := fun w => tS w.2 ≤ tS S + 1
theorem Q01.ne {α : Type} {w : Int32 × α × AS} (h : Q01 w) (h0 : ¬ w.1 = 0) : w.1 = 1 := h.elim (fun e => absurd e h0) (fun e => e)

theorem cd_Hold (S : AS) (w : Int32) (v : Int64) : Q01 (sHold S w v) := by
  obtain ⟨n, na, sg, E, kd, ⟨t, x9, y9, z9⟩, h, bs, cl⟩ := S
  exact ifp_all (Q := Q01) (Or.inr rfl) (Or.inl rfl)
theorem cd_Held (S : AS) (w : Int32) : Q01 (sHeld S w) := by
  obtain ⟨n, na, sg, E, kd, ⟨t, x9, y9, z9⟩, h, bs, cl⟩ := S
  exact ifp_all (Q := Q01) (Or.inr rfl) (Or.inl rfl)
theorem cd_Index (S : AS) (w : Int32) : Q01 (sIndex S w) := by
  obtain ⟨n, na, sg, E, kd, ⟨t, x9, y9, z9⟩, h, bs, cl⟩ := S
  exact ifp_all (Q := Q01) (Or.inl rfl) (missM_all (Q := Q01) (fun _ _ => Or.inr rfl) (Or.inl rfl))
theorem cd_Element (S : AS) (w : Int32) (k : Int64) : Q01 (sElement S w k) := by
  obtain ⟨n, na, sg, E, kd, ⟨t, x9, y9, z9⟩, h, bs, cl⟩ := S
  exact ifp_all (Q := Q01) (Or.inl rfl) (ifp_all (Q := Q01) (Or.inl rfl) (Or.inr rfl))
theorem cd_Go (S : AS) (w : Int32) (k : Int64) : Q01 (sGo S w k) := by
  obtain ⟨n, na, sg, E, kd, ⟨t, x9, y9, z9⟩, h, bs, cl⟩ := S
  exact ifp_all (Q := Q01) (Or.inl rfl) (missM_all (Q := Q01) (fun _ _ => Or.inr rfl) (ifp_all (Q := Q01) (Or.inl rfl) (ifp_all (Q := Q01) (Or.inr rfl) (ifp_all (Q := Q01) (Or.inl rfl) (Or.inr rfl)))))
theorem cd_Put (S : AS) (w v : Int32) : Q01 (sPut S w v) := by
  obtain ⟨n, na, sg, E, kd, ⟨t, x9, y9, z9⟩, h, bs, cl⟩ := S
  exact ifp_all (Q := Q01) (Or.inl rfl) (missM_all (Q := Q01) (fun _ _ => Or.inr rfl) (Or.inl rfl))
theorem cd_At (S : AS) (w : Int32) : Q01 (sAt S w) := by
  obtain ⟨n, na, sg, E, kd, ⟨t, x9, y9, z9⟩, h, bs, cl⟩ := S
  exact ifp_all (Q := Q01) (Or.inl rfl) (missM_all (Q := Q01) (fun _ _ => Or.inr rfl) (Or.inl rfl))
theorem cd_Array (S : AS) (w : Int32) : Q02 (sArray S w) := by
  obtain ⟨n, na, sg, E, kd, ⟨t, x9, y9, z9⟩, h, bs, cl⟩ := S
  exact ifp_all (Q := Q02) (Or.inl rfl) (ifp_all (Q := Q02) (Or.inl rfl) (ifp_all (Q := Q02) (Or.inr (Or.inl rfl)) (ifp_all (Q := Q02) (Or.inr (Or.inr rfl)) (Or.inl rfl))))
theorem tt_Hold (S : AS) (w : Int32) (v : Int64) : T3 S (sHold S w v) := by
  obtain ⟨n, na, sg, E, kd, ⟨t, x9, y9, z9⟩, h, bs, cl⟩ := S
  exact (ifp_all (Q := T3 (n, na, sg, E, kd, (t, x9, y9, z9), h, bs, cl)) (Nat.le_succ _) (Nat.le_succ _))
theorem tt_Held (S : AS) (w : Int32) : T3 S (sHeld S w) := by
  obtain ⟨n, na, sg, E, kd, ⟨t, x9, y9, z9⟩, h, bs, cl⟩ := S
  exact (ifp_all (Q := T3 (n, na, sg, E, kd, (t, x9, y9, z9), h, bs, cl)) (Nat.le_succ _) (Nat.le_succ _))
theorem tt_Index (S : AS) (w : Int32) : T3 S (sIndex S w) := by
  obtain ⟨n, na, sg, E, kd, ⟨t, x9, y9, z9⟩, h, bs, cl⟩ := S
  exact (ifp_all (Q := T3 (n, na, sg, E, kd, (t, x9, y9, z9), h, bs, cl)) (Nat.le_succ _) (missM_all (Q := T3 (n, na, sg, E, kd, (t, x9, y9, z9), h, bs, cl)) (fun _ _ => Nat.le_refl _) (Nat.le_succ _)))
theorem tt_Element (S : AS) (w : Int32) (k : Int64) : T3 S (sElement S w k) := by
  obtain ⟨n, na, sg, E, kd, ⟨t, x9, y9, z9⟩, h, bs, cl⟩ := S
  exact (ifp_all (Q := T3 (n, na, sg, E, kd, (t, x9, y9, z9), h, bs, cl)) (Nat.le_succ _) (ifp_all (Q := T3 (n, na, sg, E, kd, (t, x9, y9, z9), h, bs, cl)) (Nat.le_succ _) (Nat.le_succ _)))
theorem tt_Go (S : AS) (w : Int32) (k : Int64) : T3 S (sGo S w k) := by
  obtain ⟨n, na, sg, E, kd, ⟨t, x9, y9, z9⟩, h, bs, cl⟩ := S
  exact (ifp_all (Q := T3 (n, na, sg, E, kd, (t, x9, y9, z9), h, bs, cl)) (Nat.le_succ _) (missM_all (Q := T3 (n, na, sg, E, kd, (t, x9, y9, z9), h, bs, cl)) (fun _ _ => Nat.le_refl _) (ifp_all (Q := T3 (n, na, sg, E, kd, (t, x9, y9, z9), h, bs, cl)) (Nat.le_succ _) (ifp_all (Q := T3 (n, na, sg, E, kd, (t, x9, y9, z9), h, bs, cl)) (Nat.le_succ _) (ifp_all (Q := T3 (n, na, sg, E, kd, (t, x9, y9, z9), h, bs, cl)) (Nat.le_succ _) (Nat.le_succ _))))))
theorem tt_Put (S : AS) (w v : Int32) : T3 S (sPut S w v) := by
  obtain ⟨n, na, sg, E, kd, ⟨t, x9, y9, z9⟩, h, bs, cl⟩ := S
  exact (ifp_all (Q := T3 (n, na, sg, E, kd, (t, x9, y9, z9), h, bs, cl)) (Nat.le_succ _) (missM_all (Q := T3 (n, na, sg, E, kd, (t, x9, y9, z9), h, bs, cl)) (fun _ _ => Nat.le_refl _) (Nat.le_succ _)))
theorem tt_At (S : AS) (w : Int32) : T3 S (sAt S w) := by
  obtain ⟨n, na, sg, E, kd, ⟨t, x9, y9, z9⟩, h, bs, cl⟩ := S
  exact (ifp_all (Q := T3 (n, na, sg, E, kd, (t, x9, y9, z9), h, bs, cl)) (Nat.le_succ _) (missM_all (Q := T3 (n, na, sg, E, kd, (t, x9, y9, z9), h, bs, cl)) (fun _ _ => Nat.le_refl _) (Nat.le_succ _)))
theorem tt_Array (S : AS) (w : Int32) : T3 S (sArray S w) := by
  obtain ⟨n, na, sg, E, kd, ⟨t, x9, y9, z9⟩, h, bs, cl⟩ := S
  exact (ifp_all (Q := T3 (n, na, sg, E, kd, (t, x9, y9, z9), h, bs, cl)) (Nat.le_succ _) (ifp_all (Q := T3 (n, na, sg, E, kd, (t, x9, y9, z9), h, bs, cl)) (Nat.le_succ _) (ifp_all (Q := T3 (n, na, sg, E, kd, (t, x9, y9, z9), h, bs, cl)) (Nat.le_succ _) (ifp_all (Q := T3 (n, na, sg, E, kd, (t, x9, y9, z9), h, bs, cl)) (Nat.le_succ _) (Nat.le_succ _)))))
theorem tt_Wholes (S : AS) (a b : Int64) : T2 S (sWholes S a b) := by
  obtain ⟨n, na, sg, E, kd, ⟨t, x9, y9, z9⟩, h, bs, cl⟩ := S
  exact (ifp_all (Q := T2 (n, na, sg, E, kd, (t, x9, y9, z9), h, bs, cl)) (Nat.le_succ _) (Nat.le_succ _))
theorem tt_Signs (S : AS) (a b : Int32) : T2 S (sSigns S a b) := by
  obtain ⟨n, na, sg, E, kd, ⟨t, x9, y9, z9⟩, h, bs, cl⟩ := S
  exact (ifp_all (Q := T2 (n, na, sg, E, kd, (t, x9, y9, z9), h, bs, cl)) (ifp_all (Q := T2 (n, na, sg, E, kd, (t, x9, y9, z9), h, bs, cl)) (Nat.le_succ _) (Nat.le_succ _)) (Nat.le_succ _))
theorem tt_Names (S : AS) (n9 a b : Int32) : T2 S (sNames S n9 a b) := by
  obtain ⟨n, na, sg, E, kd, ⟨t, x9, y9, z9⟩, h, bs, cl⟩ := S
  exact (ifp_all (Q := T2 (n, na, sg, E, kd, (t, x9, y9, z9), h, bs, cl)) (ifp_all (Q := T2 (n, na, sg, E, kd, (t, x9, y9, z9), h, bs, cl)) (Nat.le_succ _) (Nat.le_succ _)) (Nat.le_succ _))
theorem tt_Steps (S : AS) (a b : Int64) (s : Int32) : T2 S (sSteps S a b s) := by
  obtain ⟨n, na, sg, E, kd, ⟨t, x9, y9, z9⟩, h, bs, cl⟩ := S
  exact (ifp_all (Q := T2 (n, na, sg, E, kd, (t, x9, y9, z9), h, bs, cl)) (ifp_all (Q := T2 (n, na, sg, E, kd, (t, x9, y9, z9), h, bs, cl)) (Nat.le_succ _) (Nat.le_succ _)) (Nat.le_succ _))
theorem tt_Back (S : AS) (w : Int32) : T2 S (sBack S w) := by
  obtain ⟨n, na, sg, E, kd, ⟨t, x9, y9, z9⟩, h, bs, cl⟩ := S
  exact (ifp_all (Q := T2 (n, na, sg, E, kd, (t, x9, y9, z9), h, bs, cl)) (Nat.le_succ _) (ifp_all (Q := T2 (n, na, sg, E, kd, (t, x9, y9, z9), h, bs, cl)) (Nat.le_succ _) (ifp_all (Q := T2 (n, na, sg, E, kd, (t, x9, y9, z9), h, bs, cl)) (Nat.le_succ _) (Nat.le_succ _))))
theorem tt_Pair (S : AS) (w w2 : Int32) : T2 S (sPair S w w2) := by
  obtain ⟨n, na, sg, E, kd, ⟨t, x9, y9, z9⟩, h, bs, cl⟩ := S
  exact (ifp_all (Q := T2 (n, na, sg, E, kd, (t, x9, y9, z9), h, bs, cl)) (Nat.le_succ _) (ifp_all (Q := T2 (n, na, sg, E, kd, (t, x9, y9, z9), h, bs, cl)) (Nat.le_succ _) (ifp_all (Q := T2 (n, na, sg, E, kd, (t, x9, y9, z9), h, bs, cl)) (Nat.le_succ _) (Nat.le_succ _))))
theorem tt_Triple (S : AS) (w w2 w3 : Int32) : T2 S (sTriple S w w2 w3) := by
  obtain ⟨n, na, sg, E, kd, ⟨t, x9, y9, z9⟩, h, bs, cl⟩ := S
  exact (ifp_all (Q := T2 (n, na, sg, E, kd, (t, x9, y9, z9), h, bs, cl)) (Nat.le_succ _) (ifp_all (Q := T2 (n, na, sg, E, kd, (t, x9, y9, z9), h, bs, cl)) (Nat.le_succ _) (ifp_all (Q := T2 (n, na, sg, E, kd, (t, x9, y9, z9), h, bs, cl)) (Nat.le_succ _) (Nat.le_succ _))))
theorem tt_Told (S : AS) (w v : Int32) : T2 S (sTold S w v) := by
  obtain ⟨n, na, sg, E, kd, ⟨t, x9, y9, z9⟩, h, bs, cl⟩ := S
  exact (ifp_all (Q := T2 (n, na, sg, E, kd, (t, x9, y9, z9), h, bs, cl)) (Nat.le_succ _) (Nat.le_succ _))
theorem tt_Size (S : AS) (w : Int32) : T2 S (sSize S w) := by
  obtain ⟨n, na, sg, E, kd, ⟨t, x9, y9, z9⟩, h, bs, cl⟩ := S
  exact (ifp_all (Q := T2 (n, na, sg, E, kd, (t, x9, y9, z9), h, bs, cl)) (Nat.le_succ _) (Nat.le_succ _))
theorem tt_Has (S : AS) (w : Int32) : T2 S (sHas S w) := by
  obtain ⟨n, na, sg, E, kd, ⟨t, x9, y9, z9⟩, h, bs, cl⟩ := S
  exact (ifp_all (Q := T2 (n, na, sg, E, kd, (t, x9, y9, z9), h, bs, cl)) (Nat.le_succ _) (missM_all (Q := T2 (n, na, sg, E, kd, (t, x9, y9, z9), h, bs, cl)) (fun _ _ => Nat.le_refl _) (Nat.le_succ _)))
theorem tt_Miss (S : AS) (w : Int32) : T2 S (sMiss S w) := by
  obtain ⟨n, na, sg, E, kd, ⟨t, x9, y9, z9⟩, h, bs, cl⟩ := S
  exact (Nat.le_succ _)
theorem tt_Within (S : AS) (w w2 : Int32) : T2 S (sWithin S w w2) := by
  obtain ⟨n, na, sg, E, kd, ⟨t, x9, y9, z9⟩, h, bs, cl⟩ := S
  exact (ifp_all (Q := T2 (n, na, sg, E, kd, (t, x9, y9, z9), h, bs, cl)) (Nat.le_succ _) (Nat.le_succ _))
theorem tt_Sum (S : AS) (w u : Int32) (v : Int64) : T2 S (sSum S w u v) := by
  obtain ⟨n, na, sg, E, kd, ⟨t, x9, y9, z9⟩, h, bs, cl⟩ := S
  exact (ifp_all (Q := T2 (n, na, sg, E, kd, (t, x9, y9, z9), h, bs, cl)) (Nat.le_succ _) (ifp_all (Q := T2 (n, na, sg, E, kd, (t, x9, y9, z9), h, bs, cl)) (Nat.le_succ _) (Nat.le_succ _)))
theorem tt_Over (S : AS) (w : Int32) : T2 S (sOver S w) := by
  obtain ⟨n, na, sg, E, kd, ⟨t, x9, y9, z9⟩, h, bs, cl⟩ := S
  exact (ifp_all (Q := T2 (n, na, sg, E, kd, (t, x9, y9, z9), h, bs, cl)) (Nat.le_succ _) (Nat.le_succ _))
theorem tt_Count (S : AS) (w : Int32) : T2 S (sCount S w) := by
  obtain ⟨n, na, sg, E, kd, ⟨t, x9, y9, z9⟩, h, bs, cl⟩ := S
  exact (Nat.le_succ _)
theorem tt_Clear (S : AS)  : T2 S (sClear S ) := by
  obtain ⟨n, na, sg, E, kd, ⟨t, x9, y9, z9⟩, h, bs, cl⟩ := S
  exact (Nat.zero_le _)
theorem CL_h0 {K : Nat → ClassId} {q : Nat → Nat} {f : St} {S : AS} (h : CL K q f S) : ∃ fs, f (q 0) = some (.inr (6, fs)) := by
  obtain ⟨n, na, sg, E, kd, ⟨t, x, y, z⟩, h9, bs, cl⟩ := S
  obtain ⟨hh, cl2, ehh, ecl, fi, ra, g, gb, hs, ⟨c0, _⟩, _⟩ := h
  exact ⟨_, c0⟩
theorem MD_h0 {K : Nat → ClassId} {r : Nat → Nat} {f0 f : St} {S : AS} (h : MD K r f0 f S) : ∃ fs, f (r 0) = some (.inr (7, fs)) := by
  obtain ⟨A, L, I, h1⟩ := h.mc
  exact ⟨_, h1.1⟩
theorem upd00 {v : Nat → Int64} {x : Int64} : vp_updL v (0 : Int32).toNatClampNeg x 0 = x := pk_uLs
def PL (K : Nat → ClassId) (q r : Nat → Nat) (o : Nat) (w : Int32 × Int64 × AS) (Sm : AS) : Int32 → St → Prop := fun a f9 => a = w.1 ∧ ∃ v9 : Nat → Int64, LJ K q r o f9 w.2.2 Sm v9 ∧ (w.1 = 0 → v9 0 = w.2.1)
def PLi (K : Nat → ClassId) (q r : Nat → Nat) (o : Nat) (w : Int32 × Int32 × AS) (Sm : AS) : Int32 → St → Prop := fun a f9 => a = w.1 ∧ ∃ v9 : Nat → Int64, LJ K q r o f9 w.2.2 Sm v9 ∧ (w.1 = 0 → v9 0 = w.2.1.toInt64)
abbrev wsW (y : MethodName) (cc : ByteArray) (n : Nat) (ret : Option FieldType) (hh : List (Nat × Nat × Nat × Nat)) : List Cond := Cond.codeWith y cc n ret hh :: GT
abbrev Kw (l : Launch) (D : va_G) (B : Nat) (K : Nat → ClassId) (y : MethodName) (cc : ByteArray) (n : Nat) (ret : Option FieldType) (hh : List (Nat × Nat × Nat × Nat)) (lvl mc ms : Nat) (av : List Value) (f : St) (Qc : Array Value → State → Outcome → State → Prop) : Prop := Met l y (wsW y cc n ret hh) (RM lvl mc ms) (va_Pc av (Pre D B K f)) Qc mc ms (AB B)
section VW
variable {p : Program} {l : Launch} {e : Env} {R : Room} {s : State} {m : MethodId} {args : Array Value} {below : List Frame} {meth : Method} {c : Code} {D : va_G} {B nL : Nat} {Q : State → Prop} {ce sl : Nat} {f : St} {lv : Lv} {pc : Nat} {st : List Value} {cc : ByteArray} {own : String} {K : Nat → ClassId}
theorem v_metW {y : MethodName} {ret : Option FieldType} {rm : Room} {hh : List (Nat × Nat × Nat × Nat)} {Qc : Array Value → State → Outcome → State → Prop} {mc ms : Nat} {av : List Value} (lv0 : List (Nat × Value)) (hy : plainName y.cls = true) (hlen : (lg_sl av).length ≤ nL) (hlv : lv_args 0 av = lv0)
    (body : ∀ (p : Program) (e : Env) (s : State) (m : MethodId) (args : Array Value) (below : List Frame) (meth : Method) (c : Code), Cx p s m args c cc nL y.cls D B K → meth.sig.returnType = ret → meth.locks = false → c.exceptionTable.toList = tableOf hh → V p l e rm s m args below meth c D B nL (MQ below Qc args s mc ms (AB B)) 0 0 f (lof lv0) 0 []) :
    Met l y (wsW y cc nL ret hh) rm (va_Pc av (Pre D B K f)) Qc mc ms (AB B) := by
  refine va_MetW (cc := cc) (maxL := nL) (ret := ret) (hh := hh) hy rfl ?_
  intro p e s m args below meth c s₁ Bd hml hv
  obtain ⟨rfl, hP, hK, hB, hN⟩ := hv
  have hts := atoms_spec (ws := wsW y cc nL ret hh) Bd.pre
  have hown : s.vm.findClass y.cls = some m.cls := findClass_of_methodNamed Bd.named
  have C : Cx p s m av.toArray c cc nL y.cls D B K := ⟨Bd.exec, Bd.bytes, hml, hown, fun w hw => hts w (List.mem_cons_of_mem _ hw), hK, hB, hN⟩
  have htab : c.exceptionTable.toList = tableOf hh := vx_table (x := y) Bd (hts _ List.mem_cons_self)
  have hl := lv_entry av (n := nL) hlen
  rw [lg_entry_eq]
  generalize (lg_sl av ++ List.replicate (nL - (lg_sl av).length) Slot.unset).toArray = ls at hl ⊢
  rw [hlv] at hl
  exact body p e s m _ below meth c C Bd.returns Bd.notSynchronized htab s.heap [] ls hP va_S.rf (lh_of hl)
theorem gt_wsW {y : MethodName} {cc : ByteArray} {n : Nat} {ret : Option FieldType} {hh : List (Nat × Nat × Nat × Nat)} (h : Cond.codeWith y cc n ret hh ∈ GT) : GoodIn GT (wsW y cc n ret hh) := fun w hw => (List.mem_cons.mp hw).elim (fun e => by rw [e]; exact gt_in h) gt_in
theorem r_SW (C : Cx p s m args c cc nL own D B K) {y : MethodName} {bc : ByteArray} {n9 index lvl mc ms : Nat} {ret : Option FieldType} {hh : List (Nat × Nat × Nat × Nat)} {Qc : Array Value → State → Outcome → State → Prop} {As rest : List Value} (hM : Kw l D B K y bc n9 ret hh lvl mc ms As f Qc) (hd : decode cc pc = .ok (.invokestatic index, 3)) (g1 : Cond.methodLink own index y ∈ GT) (g2 : Cond.static y ∈ GT) (g3 : Cond.initialized y.cls ∈ GT) (g4 : Cond.codeWith y bc n9 ret hh ∈ GT) (hR : RN R (lvl + 1)) (hml : n9 ≤ 21) (hst : st = As.reverse ++ rest) (hdn : y.cls ≠ "java/lang/invoke/MethodHandle" ∧ y.cls ≠ "java/lang/invoke/VarHandle" ∧ (parseMethodDescriptor y.desc).map (fun d => d.parameters.length) = some As.length) (hrest : (rest.map fun v => v.category).sum ≤ 8) (hf : ce + mc ≤ R.cells ∧ sl + ms ≤ R.slots) : ∀ (H : Heap) (locs : List Loc) (ls : Array Slot), hw D B f H → va_S (AB B) s.heap H locs → lh ls nL lv → va_Run p l e R s m args below meth c H locs ce sl mc ms (F0 m pc ls st) rest (Qc As.toArray) (AB B) := by
  intro H locs ls h hS hl
  have hT : GoodIn GT (va_wsS own index y (wsW y bc n9 ret hh)) := fun w hw => by
    unfold va_wsS at hw
    rcases List.mem_append.mp hw with q | q
    · simp only [List.mem_cons, List.not_mem_nil, or_false] at q
      rcases q with rfl | rfl | rfl
      · exact gt_in g1
      · exact gt_in g2
      · exact gt_in g3
    · exact gt_wsW g4 w q
  exact vx_runSW (As := As) (rest := rest) ⟨C.1, C.2.1, C.2.2.1, C.2.2.2.1, C.2.2.2.2.1⟩ hM (vx_cwSW As.length C.2.2.2.2.1 hT rfl rfl rfl hdn ⟨hR.1, by have h9 := hR.2; show 8 + (n9 + 11) + 40 * lvl ≤ R.locals; omega⟩) ⟨pre_blind, fun U hU hW => ⟨rfl, pre_at C h hS hU hW⟩⟩ rfl rfl hl.1 hst (lv_room hrest) hd hf
theorem r_VX (C : Cx p s m args c cc nL own D B K) {y : MethodName} {bc : ByteArray} {n9 index lvl mc ms : Nat} {ret : Option FieldType} {Qc : Array Value → State → Outcome → State → Prop} {postX : String → St → Prop} {As rest : List Value} {b ci N9 : Nat} {fs : List Value} {T9 : u_T} {C9 : String} (hM : Kx l D B K y bc n9 ret lvl mc ms (.ref b :: As) f Qc postX) (hd : decode cc pc = .ok (.invokevirtual index, 3)) (he : f b = some (.inr (ci, fs))) (hc : classes[ci]? = some (C9, T9, N9)) (g1 : Cond.methodLink own index y ∈ GT) (g2 : Cond.instanceMethod y ∈ GT) (g5 : Cond.selects C9 y y ∈ GT) (g3 : Cond.initialized C9 ∈ GT) (g4 : Cond.code y bc n9 ret ∈ GT) (hR : RN R (lvl + 1)) (hml : n9 ≤ 21) (hcy : y.cls = C9) (hst : st = As.reverse ++ .ref b :: rest) (hdn : y.cls ≠ "java/lang/invoke/MethodHandle" ∧ y.cls ≠ "java/lang/invoke/VarHandle" ∧ (parseMethodDescriptor y.desc).map (fun d => d.parameters.length) = some As.length) (hrest : (rest.map fun v => v.category).sum ≤ 8) (hf : ce + mc ≤ R.cells ∧ sl + ms ≤ R.slots) : ∀ (H : Heap) (locs : List Loc) (ls : Array Slot), hw D B f H → va_S (AB B) s.heap H locs → lh ls nL lv → vx_Run p l e R s m args below meth c H locs ce sl mc ms (F0 m pc ls st) rest (Qc (Value.ref b :: As).toArray) (XQ D B postX) (AB B) := by
  intro H locs ls h hS hl
  have hT : GoodIn GT (wsV own index C9 y (ws_ y bc n9 ret)) := fun w hw => by
    unfold wsV at hw
    rcases List.mem_append.mp hw with q | q
    · simp only [List.mem_cons, List.not_mem_nil, or_false] at q
      rcases q with rfl | rfl | rfl | rfl
      · exact gt_in g1
      · exact gt_in g2
      · exact gt_in g5
      · exact gt_in g3
    · exact gt_ws g4 w q
  exact vx_runV (As := As) (rest := rest) ⟨C.1, C.2.1, C.2.2.1, C.2.2.2.1, C.2.2.2.2.1⟩ hM (cwV As.length C.2.2.2.2.1 hT rfl rfl rfl ⟨hcy, hdn⟩ ⟨hR.1, by have h9 := hR.2; show 8 + (n9 + 11) + 40 * lvl ≤ R.locals; omega⟩) ⟨pre_blind, recv_at C h he hc, fun U hU hW => ⟨rfl, pre_at C h hS hU hW⟩⟩ rfl rfl hl.1 hst (lv_room hrest) hd hf

theorem v_xl (C : Cx p s m args c cc nL own D B K) {mc ms : Nat} {rest : List Value} {postX : String → St → Prop} {a : Array Value} {E0 name : String} (hr : ∀ (H : Heap) (locs : List Loc) (ls : Array Slot), hw D B f H → va_S (AB B) s.heap H locs → lh ls nL lv → vx_Run p l e R s m args below meth c H locs ce sl mc ms (F0 m pc ls st) rest (Ql_ D B (fun _ _ => False) a) (XQ D B postX) (AB B)) (hE : ∀ E f9, postX E f9 → E = E0) (pre : List ExceptionTableEntry) (x : ExceptionTableEntry) (suf : List ExceptionTableEntry) (htab : c.exceptionTable.toList = pre ++ x :: suf) (hpass : ∀ z ∈ pre, covers z pc = false ∨ (z.catchType ≠ 0 ∧ ∃ nm : String, (Cond.classLink own z.catchType nm).before args s = true ∧ va_Nc E0 nm s)) (hx : covers x pc = true) (h0 : x.catchType ≠ 0) (g1 : Cond.classLink own x.catchType name ∈ GT) (hcast : (Cond.castable E0 name).before args s = true) (k : ∀ f9 q9, postX E0 f9 → V p l e R s m args below meth c D B nL Q (ce + mc) (sl + ms) f9 lv x.handlerPc [.ref q9]) : V p l e R s m args below meth c D B nL Q ce sl f lv pc st := fun H locs ls h hS hl => vx_calll (hr H locs ls h hS hl) hS (fun _ _ hq => hq) (fun _ hq => hq) (fun _ _ hq => hq) (fun E ce9 q9 u t H1 locs1 ht hvm _ hBX hz hk hS1 hcell hcv hcl => by
  have e9 := hE E u hBX.1
  subst e9
  exact vx_catch C.2.2.2.1 pre x suf htab hpass hx h0 (C.2.2.2.2.1 _ g1) hcast hcell hcv hcl (k u q9 hBX.1 H1 locs1 ls (by rw [← ht]; exact hBX.2) hS1 hl)) (fun r u t H1 locs1 ht hvm hp hB hz hk hS1 => hp.elim)
theorem v_xi (C : Cx p s m args c cc nL own D B K) {mc ms : Nat} {rest : List Value} {postX : String → St → Prop} {a : Array Value} {E0 name : String} (hr : ∀ (H : Heap) (locs : List Loc) (ls : Array Slot), hw D B f H → va_S (AB B) s.heap H locs → lh ls nL lv → vx_Run p l e R s m args below meth c H locs ce sl mc ms (F0 m pc ls st) rest (Qi_ D B (fun _ _ => False) a) (XQ D B postX) (AB B)) (hE : ∀ E f9, postX E f9 → E = E0) (pre : List ExceptionTableEntry) (x : ExceptionTableEntry) (suf : List ExceptionTableEntry) (htab : c.exceptionTable.toList = pre ++ x :: suf) (hpass : ∀ z ∈ pre, covers z pc = false ∨ (z.catchType ≠ 0 ∧ ∃ nm : String, (Cond.classLink own z.catchType nm).before args s = true ∧ va_Nc E0 nm s)) (hx : covers x pc = true) (h0 : x.catchType ≠ 0) (g1 : Cond.classLink own x.catchType name ∈ GT) (hcast : (Cond.castable E0 name).before args s = true) (k : ∀ f9 q9, postX E0 f9 → V p l e R s m args below meth c D B nL Q (ce + mc) (sl + ms) f9 lv x.handlerPc [.ref q9]) : V p l e R s m args below meth c D B nL Q ce sl f lv pc st := fun H locs ls h hS hl => vx_calli (hr H locs ls h hS hl) hS (fun _ _ hq => hq) (fun _ hq => hq) (fun _ _ hq => hq) (fun E ce9 q9 u t H1 locs1 ht hvm _ hBX hz hk hS1 hcell hcv hcl => by
  have e9 := hE E u hBX.1
  subst e9
  exact vx_catch C.2.2.2.1 pre x suf htab hpass hx h0 (C.2.2.2.2.1 _ g1) hcast hcell hcv hcl (k u q9 hBX.1 H1 locs1 ls (by rw [← ht]; exact hBX.2) hS1 hl)) (fun r u t H1 locs1 ht hvm hp hB hz hk hS1 => hp.elim)
end VW
set_option maxHeartbeats 4000000 in
set_option maxRecDepth 100000 in
theorem l_hold (l : Launch) (D : va_G) (B : Nat) (K : Nat → ClassId) (f : St) (q r : Nat → Nat) (o : Nat) (S Sm : AS) (v : Nat → Int64) (hlT : l.stackTraces = false) (hJ : LJ K q r o f S Sm v) (w : Int32) (x : Int64) : Kw l D B K yL_hold cL_hold 6 (some .int) [(0, 10, 13, 13)] 51 1 6 [.ref (q 0), .int w, .long x, .ref o] f (Qi_ D B (PL K q r o (sHold S w x) Sm)) := by
  refine v_metW [(0, .ref (q 0)), (1, .int w), (2, .long x), (4, .ref o)] (by decide) (Nat.le_of_ble_eq_true rfl) rfl ?_
  intro p e s m args below meth c C hr hlk htab
  obtain ⟨fs0, hq0⟩ := CL_h0 hJ.1
  refine v_aload C dL_hold_0 rfl ?_
  refine v_iconst (v := 0) C dL_hold_2 (by decide) ?_
  refine v_aload_n C dL_hold_3 rfl rfl ?_
  refine v_iload_n C dL_hold_4 rfl rfl ?_
  refine v_lload_n C dL_hold_5 rfl rfl ?_
  by_cases hc : (sHold S w x).1 = 0
  · refine v_cl (r_V C (k_hold l D B K f q S hJ.1 w x hc) dL_hold_6 hq0 rfl g_ml_L_7 g_im_yX8_hold g_se_X8_yX8_hold_yX8_hold g_in_X8 g_cd_yX8_hold (rn_le (by decide)) (by decide) rfl rfl hdn_yX8_hold (Nat.le_of_ble_eq_true rfl) ⟨(Nat.le_of_ble_eq_true rfl), (Nat.le_of_ble_eq_true rfl)⟩) (fun a f1 h1 => ?_)
    obtain ⟨e1, hC1, hO1⟩ := h1
    subst e1
    have J1 := lj_c hJ hC1 hO1
    refine v_last C dL_hold_9 J1.2.2.1 (vp_in_nI (n := 0) (by decide) (by decide)) ?_
    refine v_goto (tgt := 17) C dL_hold_10 (by decide) ?_
    refine v_iconst (v := 0) C dL_hold_17 (by decide) ?_
    exact v_iret C hr hlk dL_hold_18 (Nat.le_of_ble_eq_true rfl) (Nat.le_of_ble_eq_true rfl) ⟨hc.symm, _, lj_o J1 _, fun _ => upd00⟩
  · have h1c := Q01.ne (cd_Hold S w x) hc
    refine v_xl (E0 := exA) (name := exA) C (r_VX C (kx_hold l D B K f q S hJ.1 w x hc hlT) dL_hold_6 hq0 rfl g_ml_L_7 g_im_yX8_hold g_se_X8_yX8_hold_yX8_hold g_in_X8 g_cd_yX8_hold (rn_le (by decide)) (by decide) rfl rfl hdn_yX8_hold (Nat.le_of_ble_eq_true rfl) ⟨(Nat.le_of_ble_eq_true rfl), (Nat.le_of_ble_eq_true rfl)⟩) (fun E f9 h9 => h9.1) [] ⟨0, 10, 13, 13⟩ [] htab (fun z hz => nomatch hz) rfl (by decide) g_cl_L_13 C.2.2.2.2.2.2.2.2.2.2.2.2.2.2.1 (fun f9 q9 h9 => ?_)
    refine v_astore C dL_hold_13 (by decide) rfl ?_
    refine v_iconst (v := 1) C dL_hold_15 (by decide) ?_
    exact v_iret C hr hlk dL_hold_16 (Nat.le_of_ble_eq_true rfl) (Nat.le_of_ble_eq_true rfl) ⟨h1c.symm, _, lj_c hJ h9.2.1 h9.2.2, fun h0 => absurd h0 hc⟩

set_option maxHeartbeats 4000000 in
set_option maxRecDepth 100000 in
theorem l_held (l : Launch) (D : va_G) (B : Nat) (K : Nat → ClassId) (f : St) (q r : Nat → Nat) (o : Nat) (S Sm : AS) (v : Nat → Int64) (hlT : l.stackTraces = false) (hJ : LJ K q r o f S Sm v) (w : Int32) : Kw l D B K yL_held cL_held 4 (some .int) [(0, 8, 11, 13)] 51 1 6 [.ref (q 0), .int w, .ref o] f (Qi_ D B (PL K q r o (sHeld S w) Sm)) := by
  refine v_metW [(0, .ref (q 0)), (1, .int w), (2, .ref o)] (by decide) (Nat.le_of_ble_eq_true rfl) rfl ?_
  intro p e s m args below meth c C hr hlk htab
  obtain ⟨fs0, hq0⟩ := CL_h0 hJ.1
  refine v_aload_n C dL_held_0 rfl rfl ?_
  refine v_iconst (v := 0) C dL_held_1 (by decide) ?_
  refine v_aload_n C dL_held_2 rfl rfl ?_
  refine v_iload_n C dL_held_3 rfl rfl ?_
  by_cases hc : (sHeld S w).1 = 0
  · refine v_cl (r_V C (k_held l D B K f q S hJ.1 w hc) dL_held_4 hq0 rfl g_ml_L_15 g_im_yX8_held g_se_X8_yX8_held_yX8_held g_in_X8 g_cd_yX8_held (rn_le (by decide)) (by decide) rfl rfl hdn_yX8_held (Nat.le_of_ble_eq_true rfl) ⟨(Nat.le_of_ble_eq_true rfl), (Nat.le_of_ble_eq_true rfl)⟩) (fun a f1 h1 => ?_)
    obtain ⟨e1, hC1, hO1⟩ := h1
    subst e1
    have J1 := lj_c hJ hC1 hO1
    refine v_last C dL_held_7 J1.2.2.1 (vp_in_nI (n := 0) (by decide) (by decide)) ?_
    refine v_goto (tgt := 14) C dL_held_8 (by decide) ?_
    refine v_iconst (v := 0) C dL_held_14 (by decide) ?_
    exact v_iret C hr hlk dL_held_15 (Nat.le_of_ble_eq_true rfl) (Nat.le_of_ble_eq_true rfl) ⟨hc.symm, _, lj_o J1 _, fun _ => upd00⟩
  · have h1c := Q01.ne (cd_Held S w) hc
    refine v_xl (E0 := exA) (name := exA) C (r_VX C (kx_held l D B K f q S hJ.1 w hc hlT) dL_held_4 hq0 rfl g_ml_L_15 g_im_yX8_held g_se_X8_yX8_held_yX8_held g_in_X8 g_cd_yX8_held (rn_le (by decide)) (by decide) rfl rfl hdn_yX8_held (Nat.le_of_ble_eq_true rfl) ⟨(Nat.le_of_ble_eq_true rfl), (Nat.le_of_ble_eq_true rfl)⟩) (fun E f9 h9 => h9.1) [] ⟨0, 8, 11, 13⟩ [] htab (fun z hz => nomatch hz) rfl (by decide) g_cl_L_13 C.2.2.2.2.2.2.2.2.2.2.2.2.2.2.1 (fun f9 q9 h9 => ?_)
    refine v_astore_n C dL_held_11 rfl (by decide) rfl ?_
    refine v_iconst (v := 1) C dL_held_12 (by decide) ?_
    exact v_iret C hr hlk dL_held_13 (Nat.le_of_ble_eq_true rfl) (Nat.le_of_ble_eq_true rfl) ⟨h1c.symm, _, lj_c hJ h9.2.1 h9.2.2, fun h0 => absurd h0 hc⟩

set_option maxHeartbeats 4000000 in
set_option maxRecDepth 100000 in
theorem l_index (l : Launch) (D : va_G) (B : Nat) (K : Nat → ClassId) (f : St) (q r : Nat → Nat) (o : Nat) (S Sm : AS) (v : Nat → Int64) (hlT : l.stackTraces = false) (hJ : LJ K q r o f S Sm v) (w : Int32) : Kw l D B K yL_index cL_index 4 (some .int) [(0, 8, 11, 22)] 51 1 6 [.ref (q 0), .int w, .ref o] f (Qi_ D B (PL K q r o (sIndex S w) Sm)) := by
  refine v_metW [(0, .ref (q 0)), (1, .int w), (2, .ref o)] (by decide) (Nat.le_of_ble_eq_true rfl) rfl ?_
  intro p e s m args below meth c C hr hlk htab
  obtain ⟨fs0, hq0⟩ := CL_h0 hJ.1
  refine v_aload_n C dL_index_0 rfl rfl ?_
  refine v_iconst (v := 0) C dL_index_1 (by decide) ?_
  refine v_aload_n C dL_index_2 rfl rfl ?_
  refine v_iload_n C dL_index_3 rfl rfl ?_
  by_cases hc : (sIndex S w).1 = 0
  · refine v_cl (r_V C (k_index l D B K f q S hJ.1 w hc) dL_index_4 hq0 rfl g_ml_L_19 g_im_yX8_index g_se_X8_yX8_index_yX8_index g_in_X8 g_cd_yX8_index (rn_le (by decide)) (by decide) rfl rfl hdn_yX8_index (Nat.le_of_ble_eq_true rfl) ⟨(Nat.le_of_ble_eq_true rfl), (Nat.le_of_ble_eq_true rfl)⟩) (fun a f1 h1 => ?_)
    obtain ⟨e1, hC1, hO1⟩ := h1
    subst e1
    have J1 := lj_c hJ hC1 hO1
    refine v_last C dL_index_7 J1.2.2.1 (vp_in_nI (n := 0) (by decide) (by decide)) ?_
    refine v_goto (tgt := 14) C dL_index_8 (by decide) ?_
    refine v_iconst (v := 0) C dL_index_14 (by decide) ?_
    exact v_iret C hr hlk dL_index_15 (Nat.le_of_ble_eq_true rfl) (Nat.le_of_ble_eq_true rfl) ⟨hc.symm, _, lj_o J1 _, fun _ => upd00⟩
  · have h1c := Q01.ne (cd_Index S w) hc
    refine v_xl (E0 := exI) (name := exI) C (r_VX C (kx_index l D B K f q S hJ.1 w hc hlT) dL_index_4 hq0 rfl g_ml_L_19 g_im_yX8_index g_se_X8_yX8_index_yX8_index g_in_X8 g_cd_yX8_index (rn_le (by decide)) (by decide) rfl rfl hdn_yX8_index (Nat.le_of_ble_eq_true rfl) ⟨(Nat.le_of_ble_eq_true rfl), (Nat.le_of_ble_eq_true rfl)⟩) (fun E f9 h9 => h9.1) [] ⟨0, 8, 11, 22⟩ [] htab (fun z hz => nomatch hz) rfl (by decide) g_cl_L_22 C.2.2.2.2.2.2.2.2.2.2.2.2.2.2.2.1 (fun f9 q9 h9 => ?_)
    refine v_astore_n C dL_index_11 rfl (by decide) rfl ?_
    refine v_iconst (v := 1) C dL_index_12 (by decide) ?_
    exact v_iret C hr hlk dL_index_13 (Nat.le_of_ble_eq_true rfl) (Nat.le_of_ble_eq_true rfl) ⟨h1c.symm, _, lj_c hJ h9.2.1 h9.2.2, fun h0 => absurd h0 hc⟩

set_option maxHeartbeats 4000000 in
set_option maxRecDepth 100000 in
theorem l_element (l : Launch) (D : va_G) (B : Nat) (K : Nat → ClassId) (f : St) (q r : Nat → Nat) (o : Nat) (S Sm : AS) (v : Nat → Int64) (hlT : l.stackTraces = false) (hJ : LJ K q r o f S Sm v) (w : Int32) (x : Int64) : Kw l D B K yL_element cL_element 6 (some .int) [(0, 11, 14, 22)] 51 1 6 [.ref (q 0), .int w, .long x, .ref o] f (Qi_ D B (PLi K q r o (sElement S w x) Sm)) := by
  refine v_metW [(0, .ref (q 0)), (1, .int w), (2, .long x), (4, .ref o)] (by decide) (Nat.le_of_ble_eq_true rfl) rfl ?_
  intro p e s m args below meth c C hr hlk htab
  obtain ⟨fs0, hq0⟩ := CL_h0 hJ.1
  refine v_aload C dL_element_0 rfl ?_
  refine v_iconst (v := 0) C dL_element_2 (by decide) ?_
  refine v_aload_n C dL_element_3 rfl rfl ?_
  refine v_iload_n C dL_element_4 rfl rfl ?_
  refine v_lload_n C dL_element_5 rfl rfl ?_
  by_cases hc : (sElement S w x).1 = 0
  · refine v_ci (r_V C (k_element l D B K f q S hJ.1 w x hc) dL_element_6 hq0 rfl g_ml_L_24 g_im_yX8_element g_se_X8_yX8_element_yX8_element g_in_X8 g_cd_yX8_element (rn_le (by decide)) (by decide) rfl rfl hdn_yX8_element (Nat.le_of_ble_eq_true rfl) ⟨(Nat.le_of_ble_eq_true rfl), (Nat.le_of_ble_eq_true rfl)⟩) (fun a f1 h1 => ?_)
    obtain ⟨e1, hC1, hO1⟩ := h1
    subst e1
    have J1 := lj_c hJ hC1 hO1
    refine v_i2l C dL_element_9 ?_
    refine v_last C dL_element_10 J1.2.2.1 (vp_in_nI (n := 0) (by decide) (by decide)) ?_
    refine v_goto (tgt := 18) C dL_element_11 (by decide) ?_
    refine v_iconst (v := 0) C dL_element_18 (by decide) ?_
    exact v_iret C hr hlk dL_element_19 (Nat.le_of_ble_eq_true rfl) (Nat.le_of_ble_eq_true rfl) ⟨hc.symm, _, lj_o J1 _, fun _ => upd00⟩
  · have h1c := Q01.ne (cd_Element S w x) hc
    refine v_xi (E0 := exI) (name := exI) C (r_VX C (kx_element l D B K f q S hJ.1 w x hc hlT) dL_element_6 hq0 rfl g_ml_L_24 g_im_yX8_element g_se_X8_yX8_element_yX8_element g_in_X8 g_cd_yX8_element (rn_le (by decide)) (by decide) rfl rfl hdn_yX8_element (Nat.le_of_ble_eq_true rfl) ⟨(Nat.le_of_ble_eq_true rfl), (Nat.le_of_ble_eq_true rfl)⟩) (fun E f9 h9 => h9.1) [] ⟨0, 11, 14, 22⟩ [] htab (fun z hz => nomatch hz) rfl (by decide) g_cl_L_22 C.2.2.2.2.2.2.2.2.2.2.2.2.2.2.2.1 (fun f9 q9 h9 => ?_)
    refine v_astore C dL_element_14 (by decide) rfl ?_
    refine v_iconst (v := 1) C dL_element_16 (by decide) ?_
    exact v_iret C hr hlk dL_element_17 (Nat.le_of_ble_eq_true rfl) (Nat.le_of_ble_eq_true rfl) ⟨h1c.symm, _, lj_c hJ h9.2.1 h9.2.2, fun h0 => absurd h0 hc⟩

set_option maxHeartbeats 4000000 in
set_option maxRecDepth 100000 in
theorem l_go (l : Launch) (D : va_G) (B : Nat) (K : Nat → ClassId) (f : St) (q r : Nat → Nat) (o : Nat) (S Sm : AS) (v : Nat → Int64) (hlT : l.stackTraces = false) (hJ : LJ K q r o f S Sm v) (w : Int32) (x : Int64) : Kw l D B K yL_go cL_go 6 (some .int) [(0, 10, 13, 22)] 51 1 6 [.ref (q 0), .int w, .long x, .ref o] f (Qi_ D B (PL K q r o (sGo S w x) Sm)) := by
  refine v_metW [(0, .ref (q 0)), (1, .int w), (2, .long x), (4, .ref o)] (by decide) (Nat.le_of_ble_eq_true rfl) rfl ?_
  intro p e s m args below meth c C hr hlk htab
  obtain ⟨fs0, hq0⟩ := CL_h0 hJ.1
  refine v_aload C dL_go_0 rfl ?_
  refine v_iconst (v := 0) C dL_go_2 (by decide) ?_
  refine v_aload_n C dL_go_3 rfl rfl ?_
  refine v_iload_n C dL_go_4 rfl rfl ?_
  refine v_lload_n C dL_go_5 rfl rfl ?_
  by_cases hc : (sGo S w x).1 = 0
  · refine v_cl (r_V C (k_go l D B K f q S hJ.1 w x hc) dL_go_6 hq0 rfl g_ml_L_28 g_im_yX8_go g_se_X8_yX8_go_yX8_go g_in_X8 g_cd_yX8_go (rn_le (by decide)) (by decide) rfl rfl hdn_yX8_go (Nat.le_of_ble_eq_true rfl) ⟨(Nat.le_of_ble_eq_true rfl), (Nat.le_of_ble_eq_true rfl)⟩) (fun a f1 h1 => ?_)
    obtain ⟨e1, hC1, hO1⟩ := h1
    subst e1
    have J1 := lj_c hJ hC1 hO1
    refine v_last C dL_go_9 J1.2.2.1 (vp_in_nI (n := 0) (by decide) (by decide)) ?_
    refine v_goto (tgt := 17) C dL_go_10 (by decide) ?_
    refine v_iconst (v := 0) C dL_go_17 (by decide) ?_
    exact v_iret C hr hlk dL_go_18 (Nat.le_of_ble_eq_true rfl) (Nat.le_of_ble_eq_true rfl) ⟨hc.symm, _, lj_o J1 _, fun _ => upd00⟩
  · have h1c := Q01.ne (cd_Go S w x) hc
    refine v_xl (E0 := exI) (name := exI) C (r_VX C (kx_go l D B K f q S hJ.1 w x hc hlT) dL_go_6 hq0 rfl g_ml_L_28 g_im_yX8_go g_se_X8_yX8_go_yX8_go g_in_X8 g_cd_yX8_go (rn_le (by decide)) (by decide) rfl rfl hdn_yX8_go (Nat.le_of_ble_eq_true rfl) ⟨(Nat.le_of_ble_eq_true rfl), (Nat.le_of_ble_eq_true rfl)⟩) (fun E f9 h9 => h9.1) [] ⟨0, 10, 13, 22⟩ [] htab (fun z hz => nomatch hz) rfl (by decide) g_cl_L_22 C.2.2.2.2.2.2.2.2.2.2.2.2.2.2.2.1 (fun f9 q9 h9 => ?_)
    refine v_astore C dL_go_13 (by decide) rfl ?_
    refine v_iconst (v := 1) C dL_go_15 (by decide) ?_
    exact v_iret C hr hlk dL_go_16 (Nat.le_of_ble_eq_true rfl) (Nat.le_of_ble_eq_true rfl) ⟨h1c.symm, _, lj_c hJ h9.2.1 h9.2.2, fun h0 => absurd h0 hc⟩

set_option maxHeartbeats 4000000 in
set_option maxRecDepth 100000 in
theorem l_array (l : Launch) (D : va_G) (B : Nat) (K : Nat → ClassId) (f : St) (q r : Nat → Nat) (o : Nat) (S Sm : AS) (v : Nat → Int64) (hlT : l.stackTraces = false) (hJ : LJ K q r o f S Sm v) (w : Int32) : Kw l D B K yL_array cL_array 4 (some .int) [(0, 9, 12, 35), (0, 9, 15, 37)] 51 1 6 [.ref (q 0), .int w, .ref o] f (Qi_ D B (PLi K q r o (sArray S w) Sm)) := by
  refine v_metW [(0, .ref (q 0)), (1, .int w), (2, .ref o)] (by decide) (Nat.le_of_ble_eq_true rfl) rfl ?_
  intro p e s m args below meth c C hr hlk htab
  obtain ⟨fs0, hq0⟩ := CL_h0 hJ.1
  refine v_aload_n C dL_array_0 rfl rfl ?_
  refine v_iconst (v := 0) C dL_array_1 (by decide) ?_
  refine v_aload_n C dL_array_2 rfl rfl ?_
  refine v_iload_n C dL_array_3 rfl rfl ?_
  by_cases hc : (sArray S w).1 = 0
  · refine v_ci (r_V C (k_array l D B K f q S hJ.1 w hc) dL_array_4 hq0 rfl g_ml_L_31 g_im_yX8_array g_se_X8_yX8_array_yX8_array g_in_X8 g_cd_yX8_array (rn_le (by decide)) (by decide) rfl rfl hdn_yX8_array (Nat.le_of_ble_eq_true rfl) ⟨(Nat.le_of_ble_eq_true rfl), (Nat.le_of_ble_eq_true rfl)⟩) (fun a f1 h1 => ?_)
    obtain ⟨e1, hC1, hO1⟩ := h1
    subst e1
    have J1 := lj_c hJ hC1 hO1
    refine v_i2l C dL_array_7 ?_
    refine v_last C dL_array_8 J1.2.2.1 (vp_in_nI (n := 0) (by decide) (by decide)) ?_
    refine v_goto (tgt := 18) C dL_array_9 (by decide) ?_
    refine v_iconst (v := 0) C dL_array_18 (by decide) ?_
    exact v_iret C hr hlk dL_array_19 (Nat.le_of_ble_eq_true rfl) (Nat.le_of_ble_eq_true rfl) ⟨hc.symm, _, lj_o J1 _, fun _ => upd00⟩
  · have hk := kx_array l D B K f q S hJ.1 w hc hlT
    by_cases h1c : (sArray S w).1 = 1
    · rw [if_pos h1c] at hk
      refine v_xi (E0 := exN) (name := exN) C (r_VX C (hk) dL_array_4 hq0 rfl g_ml_L_31 g_im_yX8_array g_se_X8_yX8_array_yX8_array g_in_X8 g_cd_yX8_array (rn_le (by decide)) (by decide) rfl rfl hdn_yX8_array (Nat.le_of_ble_eq_true rfl) ⟨(Nat.le_of_ble_eq_true rfl), (Nat.le_of_ble_eq_true rfl)⟩) (fun E f9 h9 => h9.1) [] ⟨0, 9, 12, 35⟩ [⟨0, 9, 15, 37⟩] htab (fun z hz => nomatch hz) rfl (by decide) g_cl_L_35 C.2.2.2.2.2.2.2.2.2.2.2.2.2.2.2.2.1 (fun f9 q9 h9 => ?_)
      refine v_astore_n C dL_array_12 rfl (by decide) rfl ?_
      refine v_iconst (v := 1) C dL_array_13 (by decide) ?_
      exact v_iret C hr hlk dL_array_14 (Nat.le_of_ble_eq_true rfl) (Nat.le_of_ble_eq_true rfl) ⟨h1c.symm, _, lj_c hJ h9.2.1 h9.2.2, fun h0 => absurd h0 hc⟩
    · rw [if_neg h1c] at hk
      have h2c : (sArray S w).1 = 2 := (cd_Array S w).elim (fun e => absurd e hc) (fun e => e.elim (fun e => absurd e h1c) (fun e => e))
      refine v_xi (E0 := exG) (name := exG) C (r_VX C (hk) dL_array_4 hq0 rfl g_ml_L_31 g_im_yX8_array g_se_X8_yX8_array_yX8_array g_in_X8 g_cd_yX8_array (rn_le (by decide)) (by decide) rfl rfl hdn_yX8_array (Nat.le_of_ble_eq_true rfl) ⟨(Nat.le_of_ble_eq_true rfl), (Nat.le_of_ble_eq_true rfl)⟩) (fun E f9 h9 => h9.1) [⟨0, 9, 12, 35⟩] ⟨0, 9, 15, 37⟩ [] htab (fun z hz => Or.inr (by cases List.mem_singleton.mp hz; exact ⟨by decide, _, C.2.2.2.2.1 _ g_cl_L_35, C.2.2.2.2.2.2.2.2.2.2.2.2.2.2.2.2.2.2⟩)) rfl (by decide) g_cl_L_37 C.2.2.2.2.2.2.2.2.2.2.2.2.2.2.2.2.2.1 (fun f9 q9 h9 => ?_)
      refine v_astore_n C dL_array_15 rfl (by decide) rfl ?_
      refine v_iconst (v := 2) C dL_array_16 (by decide) ?_
      exact v_iret C hr hlk dL_array_17 (Nat.le_of_ble_eq_true rfl) (Nat.le_of_ble_eq_true rfl) ⟨h2c.symm, _, lj_c hJ h9.2.1 h9.2.2, fun h0 => absurd h0 hc⟩

set_option maxHeartbeats 4000000 in
set_option maxRecDepth 100000 in
theorem l_put (l : Launch) (D : va_G) (B : Nat) (K : Nat → ClassId) (f : St) (q r : Nat → Nat) (o : Nat) (S Sm : AS) (v : Nat → Int64) (hlT : l.stackTraces = false) (hJ : LJ K q r o f S Sm v) (w x : Int32) : Kw l D B K yL_put cL_put 5 (some .int) [(0, 10, 13, 22)] 51 1 6 [.ref (q 0), .int w, .int x, .ref o] f (Qi_ D B (PLi K q r o (sPut S w x) Sm)) := by
  refine v_metW [(0, .ref (q 0)), (1, .int w), (2, .int x), (3, .ref o)] (by decide) (Nat.le_of_ble_eq_true rfl) rfl ?_
  intro p e s m args below meth c C hr hlk htab
  obtain ⟨fs0, hq0⟩ := CL_h0 hJ.1
  refine v_aload_n C dL_put_0 rfl rfl ?_
  refine v_iconst (v := 0) C dL_put_1 (by decide) ?_
  refine v_aload_n C dL_put_2 rfl rfl ?_
  refine v_iload_n C dL_put_3 rfl rfl ?_
  refine v_iload_n C dL_put_4 rfl rfl ?_
  by_cases hc : (sPut S w x).1 = 0
  · refine v_ci (r_V C (k_put l D B K f q S hJ.1 w x hc) dL_put_5 hq0 rfl g_ml_L_39 g_im_yX8_put g_se_X8_yX8_put_yX8_put g_in_X8 g_cd_yX8_put (rn_le (by decide)) (by decide) rfl rfl hdn_yX8_put (Nat.le_of_ble_eq_true rfl) ⟨(Nat.le_of_ble_eq_true rfl), (Nat.le_of_ble_eq_true rfl)⟩) (fun a f1 h1 => ?_)
    obtain ⟨e1, hC1, hO1⟩ := h1
    subst e1
    have J1 := lj_c hJ hC1 hO1
    refine v_i2l C dL_put_8 ?_
    refine v_last C dL_put_9 J1.2.2.1 (vp_in_nI (n := 0) (by decide) (by decide)) ?_
    refine v_goto (tgt := 17) C dL_put_10 (by decide) ?_
    refine v_iconst (v := 0) C dL_put_17 (by decide) ?_
    exact v_iret C hr hlk dL_put_18 (Nat.le_of_ble_eq_true rfl) (Nat.le_of_ble_eq_true rfl) ⟨hc.symm, _, lj_o J1 _, fun _ => upd00⟩
  · have h1c := Q01.ne (cd_Put S w x) hc
    refine v_xi (E0 := exI) (name := exI) C (r_VX C (kx_put l D B K f q S hJ.1 w x hc hlT) dL_put_5 hq0 rfl g_ml_L_39 g_im_yX8_put g_se_X8_yX8_put_yX8_put g_in_X8 g_cd_yX8_put (rn_le (by decide)) (by decide) rfl rfl hdn_yX8_put (Nat.le_of_ble_eq_true rfl) ⟨(Nat.le_of_ble_eq_true rfl), (Nat.le_of_ble_eq_true rfl)⟩) (fun E f9 h9 => h9.1) [] ⟨0, 10, 13, 22⟩ [] htab (fun z hz => nomatch hz) rfl (by decide) g_cl_L_22 C.2.2.2.2.2.2.2.2.2.2.2.2.2.2.2.1 (fun f9 q9 h9 => ?_)
    refine v_astore C dL_put_13 (by decide) rfl ?_
    refine v_iconst (v := 1) C dL_put_15 (by decide) ?_
    exact v_iret C hr hlk dL_put_16 (Nat.le_of_ble_eq_true rfl) (Nat.le_of_ble_eq_true rfl) ⟨h1c.symm, _, lj_c hJ h9.2.1 h9.2.2, fun h0 => absurd h0 hc⟩

set_option maxHeartbeats 4000000 in
set_option maxRecDepth 100000 in
theorem l_at (l : Launch) (D : va_G) (B : Nat) (K : Nat → ClassId) (f : St) (q r : Nat → Nat) (o : Nat) (S Sm : AS) (v : Nat → Int64) (hlT : l.stackTraces = false) (hJ : LJ K q r o f S Sm v) (w : Int32) : Kw l D B K yL_at cL_at 4 (some .int) [(0, 9, 12, 22)] 51 1 6 [.ref (q 0), .int w, .ref o] f (Qi_ D B (PLi K q r o (sAt S w) Sm)) := by
  refine v_metW [(0, .ref (q 0)), (1, .int w), (2, .ref o)] (by decide) (Nat.le_of_ble_eq_true rfl) rfl ?_
  intro p e s m args below meth c C hr hlk htab
  obtain ⟨fs0, hq0⟩ := CL_h0 hJ.1
  refine v_aload_n C dL_at_0 rfl rfl ?_
  refine v_iconst (v := 0) C dL_at_1 (by decide) ?_
  refine v_aload_n C dL_at_2 rfl rfl ?_
  refine v_iload_n C dL_at_3 rfl rfl ?_
  by_cases hc : (sAt S w).1 = 0
  · refine v_ci (r_V C (k_at l D B K f q S hJ.1 w hc) dL_at_4 hq0 rfl g_ml_L_43 g_im_yX8_at g_se_X8_yX8_at_yX8_at g_in_X8 g_cd_yX8_at (rn_le (by decide)) (by decide) rfl rfl hdn_yX8_at (Nat.le_of_ble_eq_true rfl) ⟨(Nat.le_of_ble_eq_true rfl), (Nat.le_of_ble_eq_true rfl)⟩) (fun a f1 h1 => ?_)
    obtain ⟨e1, hC1, hO1⟩ := h1
    subst e1
    have J1 := lj_c hJ hC1 hO1
    refine v_i2l C dL_at_7 ?_
    refine v_last C dL_at_8 J1.2.2.1 (vp_in_nI (n := 0) (by decide) (by decide)) ?_
    refine v_goto (tgt := 15) C dL_at_9 (by decide) ?_
    refine v_iconst (v := 0) C dL_at_15 (by decide) ?_
    exact v_iret C hr hlk dL_at_16 (Nat.le_of_ble_eq_true rfl) (Nat.le_of_ble_eq_true rfl) ⟨hc.symm, _, lj_o J1 _, fun _ => upd00⟩
  · have h1c := Q01.ne (cd_At S w) hc
    refine v_xi (E0 := exI) (name := exI) C (r_VX C (kx_at l D B K f q S hJ.1 w hc hlT) dL_at_4 hq0 rfl g_ml_L_43 g_im_yX8_at g_se_X8_yX8_at_yX8_at g_in_X8 g_cd_yX8_at (rn_le (by decide)) (by decide) rfl rfl hdn_yX8_at (Nat.le_of_ble_eq_true rfl) ⟨(Nat.le_of_ble_eq_true rfl), (Nat.le_of_ble_eq_true rfl)⟩) (fun E f9 h9 => h9.1) [] ⟨0, 9, 12, 22⟩ [] htab (fun z hz => nomatch hz) rfl (by decide) g_cl_L_22 C.2.2.2.2.2.2.2.2.2.2.2.2.2.2.2.1 (fun f9 q9 h9 => ?_)
    refine v_astore_n C dL_at_12 rfl (by decide) rfl ?_
    refine v_iconst (v := 1) C dL_at_13 (by decide) ?_
    exact v_iret C hr hlk dL_at_14 (Nat.le_of_ble_eq_true rfl) (Nat.le_of_ble_eq_true rfl) ⟨h1c.symm, _, lj_c hJ h9.2.1 h9.2.2, fun h0 => absurd h0 hc⟩

