/-! arrays: new ones, stores of references -/
theorem va_up_id {f : St} {a : Nat} {x : va_E} (h : f a = some x) : va_up f a (some x) = f := by
  funext b
  by_cases hb : b = a
  · subst hb; rw [va_up_self, h]
  · rw [va_up_ne _ _ hb]
theorem va_RA_inj {s : State} {cA cB : ClassId} {ty : FieldType} (h1 : va_RA s cA ty) (h2 : va_RA s cB ty) : cA = cB := by
  cases ty with
  | object C =>
    obtain ⟨_, _, _, _, _, e1⟩ := h1
    obtain ⟨_, _, _, _, _, e2⟩ := h2
    exact Option.some.inj (e1.symm.trans e2)
  | _ => exact Option.some.inj (h1.symm.trans h2)
theorem g_obj1 : Cond.instanceMethod objectInit ∈ GT := g_im_java_lang_Object__init__47f5
theorem g_obj2 : Cond.code objectInit ⟨#[0xb1]⟩ 1 none ∈ GT := g_cd_java_lang_Object__init__47f5
section VA
variable {p : Program} {l : Launch} {e : Env} {R : Room} {s : State} {m : MethodId} {args : Array Value} {below : List Frame} {meth : Method} {c : Code} {D : va_G} {B nL : Nat} {Q : State → Prop} {ce sl : Nat} {f : St} {lv : Lv} {pc : Nat} {st : List Value} {cc : ByteArray} {own : String} {K : Nat → ClassId}
theorem v_newa (C : Cx p s m args c cc nL own D B K) {atype : ArrayType} {ty : FieldType} {n : Int32} {N : Nat} {a0 : vp_A} (hd : decode cc pc = .ok (.newarray atype, 2)) (t0 : Nat) (hty : newarray.typeOf atype = ty) (ht : (tyL K)[t0]? = some (K t0, ty)) (g1 : Cond.arrayClass ty ∈ GT) (ha : ∀ cA : ClassId, vp_cell cA a0 = arrV cA N (fun _ => defaultValue ty)) (hn : ¬ n < 0) (hN : n.toNatClampNeg = N) (hby : N * componentBytes ty ≤ 536870912) (hce : ce + 1 ≤ R.cells) (hsl : sl + N ≤ R.slots) (k : ∀ q, f q = none → V p l e R s m args below meth c D B nL Q (ce + 1) (sl + N) (va_up f q (some (.inl (K t0, a0)))) lv (pc + 2) (.ref q :: st)) : V p l e R s m args below meth c D B nL Q ce sl f lv pc (.int n :: st) := fun H locs ls h hS hl => by
  obtain ⟨ws, hP, hD, hpu⟩ := h.push
  refine va_newa C.1 C.2.1 (by rw [hty]; exact C.2.2.2.2.1 _ g1) hty C.2.2.2.2.2.1 hP hD hS (fun q hq => Nat.le_trans C.2.2.2.2.2.2.1 hq) ha hn hN hby hce hsl hd (fun q cA H1 hK1 hP1 hD1 hS1 => ?_)
  have e9 : cA = K t0 := va_RA_inj (hK1.2 5 (cA, ty) rfl).2 (C.2.2.2.2.2.1.2 t0 _ ht).2
  subst e9
  obtain ⟨h1, h2⟩ := hpu q _ H1 hP1 hD1
  exact k q h1 H1 locs ls h2 hS1 hl
theorem v_newq (C : Cx p s m args c cc nL own D B K) {index : Nat} {n : Int32} {N : Nat} (hd : decode cc pc = .ok (.anewarray index, 3)) (g1 : Cond.classLink own index RX5 ∈ GT) (hn : ¬ n < 0) (hN : n.toNatClampNeg = N) (hby : N * 4 ≤ 536870912) (hce : ce + 1 ≤ R.cells) (hsl : sl + N ≤ R.slots) (k : ∀ q, f q = none → V p l e R s m args below meth c D B nL Q (ce + 1) (sl + N) (va_up f q (some (.inl (K 3, N, .inr (.inr (.inr (.inr (fun _ => none)))))))) lv (pc + 3) (.ref q :: st)) : V p l e R s m args below meth c D B nL Q ce sl f lv pc (.int n :: st) := fun H locs ls h hS hl => by
  obtain ⟨ws, hP, hD, hpu⟩ := h.push
  refine va_newq C.1 C.2.1 C.2.2.2.1 (C.2.2.2.2.1 _ g1) C.2.2.2.2.2.2.2.2.2.1 C.2.2.2.2.2.1 hP hD hS (fun q hq => Nat.le_trans C.2.2.2.2.2.2.1 hq) hn hN hby hce hsl hd (fun q cA H1 hK1 hP1 hD1 hS1 => ?_)
  have e9 : cA = K 3 := va_RA_inj (hK1.2 5 (cA, .object RX5) rfl).2 (C.2.2.2.2.2.1.2 3 _ rfl).2
  subst e9
  obtain ⟨h1, h2⟩ := hpu q _ H1 hP1 hD1
  exact k q h1 H1 locs ls h2 hS1 hl
theorem v_ast (C : Cx p s m args c cc nL own D B K) {a n v ci N9 : Nat} {g : Nat → Option Nat} {i : Int32} {fs : List Value} {T9 : u_T} {C9 : String} (hd : decode cc pc = .ok (.aastore, 1)) (he : f a = some (.inl (K 3, n, .inr (.inr (.inr (.inr g)))))) (hv : f v = some (.inr (ci, fs))) (hc : classes[ci]? = some (C9, T9, N9)) (gc : Cond.castable C9 RX5 ∈ nbL) (hi : vp_in i n) (k : V p l e R s m args below meth c D B nL Q ce sl (va_up f a (some (.inl (K 3, n, .inr (.inr (.inr (.inr (va_up g i.toNatClampNeg (some v))))))))) lv (pc + 1) st) : V p l e R s m args below meth c D B nL Q ce sl f lv pc (.ref v :: .int i :: .ref a :: st) := fun H locs ls h hS hl => by
  obtain ⟨ws, q0, hP, hD, hq, hset⟩ := h.place he
  refine va_astqM (E := RX5) C.1 C.2.1 C.2.2.2.2.2.1 hP hD hS q0 3 hq rfl (va_rAny C.2.2.2.2.2.1 (h.one hv) (q0 := 0) rfl hc (fun comp c0 e1 e2 => ?_)) hi hd (fun H1 locs1 hP1 hD1 hS1 => k H1 locs1 ls (hset _ H1 hP1 hD1) hS1 hl)
  obtain ⟨c3, c4, h3, h4, h5⟩ := Cond.castable_spec (C.2.2.2.2.2.2.2.1 _ gc)
  cases Option.some.inj (h3.symm.trans e2)
  cases Option.some.inj (h4.symm.trans e1)
  exact h5
end VA
