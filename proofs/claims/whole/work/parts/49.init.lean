/-! the constructors: what they leave -/
def Hs (a0 : Nat) (f0 f : St) (ps : List (Nat × va_E)) : Prop := (∀ p ∈ ps, f p.1 = some p.2) ∧ (ps.map (fun p => p.1)).Nodup ∧ (∀ a x, (∀ p ∈ ps, a ≠ p.1) → f0 a = some x → f a = some x) ∧ ∀ p ∈ ps, p.1 = a0 ∨ f0 p.1 = none
theorem hs_one {f : St} {a : Nat} {o : va_E} (h : f a = some o) : Hs a f f [(a, o)] := by
  refine ⟨fun p hp => ?_, List.nodup_cons.mpr ⟨List.not_mem_nil, List.nodup_nil⟩, fun _ _ _ h => h, fun p hp => ?_⟩
  · rcases List.mem_cons.mp hp with e | e
    · subst e; exact h
    · cases e
  · rcases List.mem_cons.mp hp with e | e
    · subst e; exact Or.inl rfl
    · cases e
theorem hs_new {a0 : Nat} {f0 f : St} {ps : List (Nat × va_E)} (h : Hs a0 f0 f ps) {q : Nat} (hq : f q = none) (y : va_E) : Hs a0 f0 (va_up f q (some y)) (ps ++ [(q, y)]) := by
  have hne : ∀ p ∈ ps, p.1 ≠ q := fun p hp e => by
    have := h.1 p hp
    rw [e, hq] at this; cases this
  refine ⟨fun p hp => ?_, ?_, fun a x ha hx => ?_, fun p hp => ?_⟩
  · rcases List.mem_append.mp hp with e | e
    · rw [va_up_ne _ _ (hne p e)]; exact h.1 p e
    · rcases List.mem_cons.mp e with e | e
      · subst e; exact va_up_self _ _ _
      · cases e
  · rw [List.map_append]
    refine List.nodup_append.mpr ⟨h.2.1, List.nodup_cons.mpr ⟨List.not_mem_nil, List.nodup_nil⟩, fun a ha b hb => ?_⟩
    obtain ⟨p, hp, rfl⟩ := List.mem_map.mp ha
    rcases List.mem_cons.mp hb with e | e
    · subst e; exact hne p hp
    · cases e
  · rw [va_up_ne _ _ (ha (q, y) (List.mem_append_right _ List.mem_cons_self))]
    exact h.2.2.1 a x (fun p hp => ha p (List.mem_append_left _ hp)) hx
  · rcases List.mem_append.mp hp with e | e
    · exact h.2.2.2 p e
    · rcases List.mem_cons.mp e with e | e
      · subst e
        right
        cases hf : f0 q with
        | none => rfl
        | some x => exact absurd ((h.2.2.1 q x (fun p hp => Ne.symm (hne p hp)) hf).symm.trans hq) (fun e9 => by cases e9)
      · cases e
theorem hs_set {a0 : Nat} {f0 f : St} (A : List (Nat × va_E)) {B : List (Nat × va_E)} {a : Nat} {o : va_E} (h : Hs a0 f0 f (A ++ (a, o) :: B)) (y : va_E) : Hs a0 f0 (va_up f a (some y)) (A ++ (a, y) :: B) := by
  have hnd := h.2.1
  rw [List.map_append, List.map_cons] at hnd
  obtain ⟨n1, n2, n3⟩ := List.nodup_append.mp hnd
  obtain ⟨n4, n5⟩ := List.nodup_cons.mp n2
  have hsw : ∀ p ∈ A ++ (a, y) :: B, ∃ p2 ∈ A ++ (a, o) :: B, p2.1 = p.1 := fun p hp => by
    rcases List.mem_append.mp hp with e | e
    · exact ⟨p, List.mem_append_left _ e, rfl⟩
    · rcases List.mem_cons.mp e with e | e
      · subst e; exact ⟨(a, o), List.mem_append_right _ List.mem_cons_self, rfl⟩
      · exact ⟨p, List.mem_append_right _ (List.mem_cons_of_mem _ e), rfl⟩
  refine ⟨fun p hp => ?_, by rw [List.map_append, List.map_cons]; exact hnd, fun b x hb hx => ?_, fun p hp => ?_⟩
  · rcases List.mem_append.mp hp with e | e
    · rw [va_up_ne _ _ (n3 p.1 (List.mem_map.mpr ⟨p, e, rfl⟩) a List.mem_cons_self)]
      exact h.1 p (List.mem_append_left _ e)
    · rcases List.mem_cons.mp e with e | e
      · subst e; exact va_up_self _ _ _
      · rw [va_up_ne _ _ (fun e9 => n4 (by rw [← e9]; exact List.mem_map.mpr ⟨p, e, rfl⟩))]
        exact h.1 p (List.mem_append_right _ (List.mem_cons_of_mem _ e))
  · have hab : b ≠ a := hb (a, y) (List.mem_append_right _ List.mem_cons_self)
    rw [va_up_ne _ _ hab]
    refine h.2.2.1 b x (fun p hp => ?_) hx
    rcases List.mem_append.mp hp with e | e
    · exact hb p (List.mem_append_left _ e)
    · rcases List.mem_cons.mp e with e | e
      · subst e; exact hab
      · exact hb p (List.mem_append_right _ (List.mem_cons_of_mem _ e))
  · obtain ⟨p2, h1, h2⟩ := hsw p hp
    rw [← h2]; exact h.2.2.2 p2 h1
theorem inj_of_nodup {l : List Nat} {r : Nat → Nat} (h : (l.map r).Nodup) : ∀ i ∈ l, ∀ j ∈ l, r i = r j → i = j := by
  induction l with
  | nil => intro i hi; cases hi
  | cons a t ih =>
    rw [List.map_cons] at h
    obtain ⟨h1, h2⟩ := List.nodup_cons.mp h
    intro i hi j hj e
    rcases List.mem_cons.mp hi with e1 | e1 <;> rcases List.mem_cons.mp hj with e2 | e2
    · rw [e1, e2]
    · subst e1; exact absurd (by rw [e]; exact List.mem_map.mpr ⟨j, e2, rfl⟩) h1
    · subst e2; exact absurd (by rw [← e]; exact List.mem_map.mpr ⟨i, e1, rfl⟩) h1
    · exact ih h2 i e1 j e2 e
section NV
variable {p : Program} {l : Launch} {e : Env} {R : Room} {s : State} {m : MethodId} {args : Array Value} {below : List Frame} {meth : Method} {c : Code} {D : va_G} {B nL : Nat} {Q : State → Prop} {ce sl : Nat} {a9 : Nat} {f f0 : St} {lv : Lv} {pc : Nat} {st : List Value} {cc : ByteArray} {own : String} {K : Nat → ClassId}
theorem n_newa (C : Cx p s m args c cc nL own D B K) {h0 : Nat × va_E} {ps : List (Nat × va_E)} (hH : Hs a9 f0 f (h0 :: ps)) {atype : ArrayType} {ty : FieldType} {n : Int32} {N : Nat} {a0 : vp_A} (hd : decode cc pc = .ok (.newarray atype, 2)) (t0 : Nat) (hty : newarray.typeOf atype = ty) (ht : (tyL K)[t0]? = some (K t0, ty)) (g1 : Cond.arrayClass ty ∈ GT) (ha : ∀ cA : ClassId, vp_cell cA a0 = arrV cA N (fun _ => defaultValue ty)) (hn : ¬ n < 0) (hN : n.toNatClampNeg = N) (hby : N * componentBytes ty ≤ 536870912) (hce : ce + 1 ≤ R.cells) (hsl : sl + N ≤ R.slots) (k : ∀ q f2, Hs a9 f0 f2 (h0 :: (ps ++ [(q, .inl (K t0, a0))])) → V p l e R s m args below meth c D B nL Q (ce + 1) (sl + N) f2 lv (pc + 2) (.ref q :: st)) : V p l e R s m args below meth c D B nL Q ce sl f lv pc (.int n :: st) :=
  v_newa C hd t0 hty ht g1 ha hn hN hby hce hsl (fun q hq => k q _ (hs_new hH hq _))
theorem n_newq (C : Cx p s m args c cc nL own D B K) {h0 : Nat × va_E} {ps : List (Nat × va_E)} (hH : Hs a9 f0 f (h0 :: ps)) {index : Nat} {n : Int32} {N : Nat} (hd : decode cc pc = .ok (.anewarray index, 3)) (g1 : Cond.classLink own index RX5 ∈ GT) (hn : ¬ n < 0) (hN : n.toNatClampNeg = N) (hby : N * 4 ≤ 536870912) (hce : ce + 1 ≤ R.cells) (hsl : sl + N ≤ R.slots) (k : ∀ q f2, Hs a9 f0 f2 (h0 :: (ps ++ [(q, .inl (K 3, N, .inr (.inr (.inr (.inr (fun _ => none))))))])) → V p l e R s m args below meth c D B nL Q (ce + 1) (sl + N) f2 lv (pc + 3) (.ref q :: st)) : V p l e R s m args below meth c D B nL Q ce sl f lv pc (.int n :: st) :=
  v_newq C hd g1 hn hN hby hce hsl (fun q hq => k q _ (hs_new hH hq _))
theorem n_new (C : Cx p s m args c cc nL own D B K) {h0 : Nat × va_E} {ps : List (Nat × va_E)} (hH : Hs a9 f0 f (h0 :: ps)) {C9 : String} {T : u_T} {N ci index : Nat} {fs : List Value} (hd : decode cc pc = .ok (.new index, 3)) (hc : classes[ci]? = some (C9, T, N)) (hin : ∀ w ∈ u_ws C9 T N, w ∈ GT) (ty : Nat → FieldType) (hty : ∀ k, k < N → parseFieldDescriptor (T k).2.2.1 = some (ty k)) (g1 : Cond.classLink own index C9 ∈ GT) (g2 : Cond.instantiable C9 N ∈ GT) (g3 : Cond.initialized C9 ∈ GT) (hfs : ∀ j, j < N → defaultValue (ty j) = vp_V fs j) (hce : ce + 1 ≤ R.cells) (hsl : sl + N ≤ R.slots) (k : ∀ q f2, Hs a9 f0 f2 (h0 :: (ps ++ [(q, .inr (ci, fs))])) → V p l e R s m args below meth c D B nL Q (ce + 1) (sl + N) f2 lv (pc + 3) (.ref q :: st)) : V p l e R s m args below meth c D B nL Q ce sl f lv pc st :=
  v_new C hd hc hin ty hty g1 g2 g3 hfs hce hsl (fun q hq => k q _ (hs_new hH hq _))
theorem n_putF (C : Cx p s m args c cc nL own D B K) {ps : List (Nat × va_E)} {C9 ref : String} {T : u_T} {N ci index a : Nat} {fs : List Value} {v : Value} {ty : FieldType} (fs2 : List Value) (hH : Hs a9 f0 f ((a, .inr (ci, fs)) :: ps)) (hd : decode cc pc = .ok (.putfield index, 3)) (k9 : Nat) (hc : classes[ci]? = some (C9, T, N)) (hin : ∀ w ∈ u_ws C9 T N, w ∈ GT) (ty0 : Nat → FieldType) (hty : ∀ k, k < N → parseFieldDescriptor (T k).2.2.1 = some (ty0 k)) (hnm : ∀ a, a < N → ∀ b, b < N → a ≠ b → (T a).2.1 ≠ (T b).2.1) (hk : k9 < N) (hg : Cond.fieldLink own index ref (T k9).2.1 (T k9).2.2.1 ∈ GT) (hsame : ∀ x, s.fieldFound? (T k9).1 (T k9).2.1 (T k9).2.2.1 = some x → s.fieldFound? ref (T k9).2.1 (T k9).2.2.1 = some x) (hfin : (T k9).2.2.2 = true) (hin2 : meth.name = "<init>") (hdecl : (T k9).1 = own) (hdd : parseFieldDescriptor (T k9).2.2.1 = some ty) (hn : narrow ty v = v) (hfit : fits ty v = true) (hl9 : k9 < fs.length) (hfs2 : fs.set k9 v = fs2) (k : ∀ f2, Hs a9 f0 f2 ((a, .inr (ci, fs2)) :: ps) → V p l e R s m args below meth c D B nL Q ce sl f2 lv (pc + 3) st) : V p l e R s m args below meth c D B nL Q ce sl f lv pc (v :: .ref a :: st) :=
  v_putF C hd k9 (hH.1 _ List.mem_cons_self) hc hin ty0 hty hnm hk hg hsame hfin hin2 hdecl hdd hn hfit hl9 (k _ (by rw [hfs2]; exact hs_set [] hH _))
theorem n_put (C : Cx p s m args c cc nL own D B K) {ps : List (Nat × va_E)} {C9 ref : String} {T : u_T} {N ci index a : Nat} {fs : List Value} {v : Value} {ty : FieldType} (fs2 : List Value) (hH : Hs a9 f0 f ((a, .inr (ci, fs)) :: ps)) (hd : decode cc pc = .ok (.putfield index, 3)) (k9 : Nat) (hc : classes[ci]? = some (C9, T, N)) (hin : ∀ w ∈ u_ws C9 T N, w ∈ GT) (ty0 : Nat → FieldType) (hty : ∀ k, k < N → parseFieldDescriptor (T k).2.2.1 = some (ty0 k)) (hnm : ∀ a, a < N → ∀ b, b < N → a ≠ b → (T a).2.1 ≠ (T b).2.1) (hk : k9 < N) (hg : Cond.fieldLink own index ref (T k9).2.1 (T k9).2.2.1 ∈ GT) (hsame : ∀ x, s.fieldFound? (T k9).1 (T k9).2.1 (T k9).2.2.1 = some x → s.fieldFound? ref (T k9).2.1 (T k9).2.2.1 = some x) (hfin : (T k9).2.2.2 = false) (hdd : parseFieldDescriptor (T k9).2.2.1 = some ty) (hn : narrow ty v = v) (hfit : fits ty v = true) (hl9 : k9 < fs.length) (hfs2 : fs.set k9 v = fs2) (k : ∀ f2, Hs a9 f0 f2 ((a, .inr (ci, fs2)) :: ps) → V p l e R s m args below meth c D B nL Q ce sl f2 lv (pc + 3) st) : V p l e R s m args below meth c D B nL Q ce sl f lv pc (v :: .ref a :: st) :=
  v_put C hd k9 (hH.1 _ List.mem_cons_self) hc hin ty0 hty hnm hk hg hsame hfin hdd hn hfit hl9 (k _ (by rw [hfs2]; exact hs_set [] hH _))
theorem v_mna (C : Cx p s m args c cc nL own D B K) {index : Nat} (hd : decode cc pc = .ok (.multianewarray index 2, 4)) (g1 : Cond.classLink own index "[[I" ∈ GT) (hce : ce + 7 ≤ R.cells) (hsl : sl + 2406 ≤ R.slots) (k : ∀ (q : Nat) (r : Nat → Nat) (f2 : St), (∀ i j, i < 6 → j < 6 → r i = r j → i = j) → (∀ i, i < 6 → r i ≠ q) → (∀ a x, f a = some x → f2 a = some x ∧ a ≠ q ∧ ∀ i, i < 6 → a ≠ r i) → f2 q = some (.inl (K 4, 6, .inr (.inr (.inr (.inr (fun i => if i < 6 then some (r i) else none)))))) → (∀ i, i < 6 → f2 (r i) = some (.inl (K 0, 400, .inl (fun _ => 0)))) → V p l e R s m args below meth c D B nL Q (ce + 7) (sl + 2406) f2 lv (pc + 4) (.ref q :: st)) : V p l e R s m args below meth c D B nL Q ce sl f lv pc (.int 400 :: .int 6 :: st) := fun H locs ls h hS hl => by
  obtain ⟨L, g, hP, hD, h3⟩ := h
  refine va_mna (X := []) (L := L) (f := g) (ty := .int) (cy := K 0) (N' := 6) (K' := 400) (z := (400, .inl (fun _ => 0))) C.1 C.2.1 C.2.2.2.1 (C.2.2.2.2.1 _ g1) C.2.2.2.2.2.2.2.2.2.2.1 (C.2.2.2.2.1 _ g_ac_int) (C.2.2.2.2.2.1.2 0 _ rfl).2 C.2.2.2.2.2.1 hP hD hS (fun q hq => Nat.le_trans C.2.2.2.2.2.2.1 hq) (by decide) (by decide) rfl rfl (by decide) (by decide) (by decide) rfl rfl hce hsl (fun c => ?_) hd (fun q r cA H1 hi hn hK1 hP1 hD1 hS1 => ?_)
  · show ({ cls := c, slots := Array.replicate 400 (.int 0), vm := .none } : Cell) = _
    rw [arrV_new]
    rfl
  · have e9 : cA = K 4 := va_RA_inj (hK1.2 5 (cA, .array .int) rfl).2 (C.2.2.2.2.2.1.2 4 _ rfl).2
    subst e9
    have hrow : ∀ i, i < 6 → r i ∈ (List.range 6).map r := fun i h6 => List.mem_map.mpr ⟨i, List.mem_range.mpr h6, rfl⟩
    have hqL : q ∉ L ++ (List.range 6).map r := fun hm => by
      obtain ⟨k9, hk9⟩ := va_pl_get (X := [(q, .inl (K 4, 6, .inr (.inr (.inr (.inr (fun i => if i < 6 then some (r i) else none))))))]) (f := vr_up g ((List.range 6).map r) (.inl (K 0, 400, .inl (fun _ => 0)))) hm
      have e0 := hD1.1 0 k9 _ _ rfl hk9 rfl
      subst e0
      have e1 := Option.some.inj hk9
      obtain ⟨k8, hk8⟩ := va_pl_get (X := []) (f := vr_up g ((List.range 6).map r) (.inl (K 0, 400, .inl (fun _ => 0)))) hm
      have e2 := hD1.1 0 (k8 + 1) _ _ rfl (show ([(q, (.inl (K 4, 6, .inr (.inr (.inr (.inr (fun i => if i < 6 then some (r i) else none))))) : va_E))] ++ va_pl (L ++ (List.range 6).map r) (vr_up g ((List.range 6).map r) (.inl (K 0, 400, .inl (fun _ => 0)))))[k8 + 1]? = _ from hk8) rfl
      omega
    have hpl : va_pl (q :: (L ++ (List.range 6).map r)) (va_up (vr_up g ((List.range 6).map r) (.inl (K 0, 400, .inl (fun _ => 0)))) q (.inl (K 4, 6, .inr (.inr (.inr (.inr (fun i => if i < 6 then some (r i) else none))))))) = [] ++ [(q, .inl (K 4, 6, .inr (.inr (.inr (.inr (fun i => if i < 6 then some (r i) else none))))))] ++ va_pl (L ++ (List.range 6).map r) (vr_up g ((List.range 6).map r) (.inl (K 0, 400, .inl (fun _ => 0)))) := by
      unfold va_pl
      rw [List.map_cons, va_up_self]
      refine congrArg (List.cons _) (List.map_congr_left fun a ha => ?_)
      rw [va_up_ne _ _ (fun e9 => hqL (by rw [← e9]; exact ha))]
    have hrq : ∀ i, i < 6 → r i ≠ q := fun i h6 e9 => hqL (by rw [← e9]; exact List.mem_append_right _ (hrow i h6))
    have hfa : ∀ a x, f a = some x → a ≠ q ∧ a ∉ (List.range 6).map r := fun a x hx => ⟨fun e9 => hqL (by rw [← e9]; exact List.mem_append_left _ (h3 a x hx).1), fun hm => by
      obtain ⟨i, h6, rfl⟩ := List.mem_map.mp hm
      exact hn i (List.mem_range.mp h6) (h3 _ x hx).1⟩
    refine k q r (va_up (vr_up f ((List.range 6).map r) (some (.inl (K 0, 400, .inl (fun _ => 0))))) q (some (.inl (K 4, 6, .inr (.inr (.inr (.inr (fun i => if i < 6 then some (r i) else none)))))))) hi hrq (fun a x hx => ⟨by rw [va_up_ne _ _ (hfa a x hx).1, vr_up_ne (hfa a x hx).2]; exact hx, (hfa a x hx).1, fun i h6 e9 => (hfa a x hx).2 (by rw [e9]; exact hrow i h6)⟩) (va_up_self _ _ _) (fun i h6 => by rw [va_up_ne _ _ (hrq i h6), vr_up_in (hrow i h6)]) H1 locs ls ⟨_, _, by rw [hpl]; exact hP1, by rw [hpl]; exact hD1, fun a x hx => ?_⟩ hS1 hl
    by_cases ea : a = q
    · subst ea
      rw [va_up_self] at hx ⊢
      exact ⟨List.mem_cons_self, Option.some.inj hx⟩
    · rw [va_up_ne _ _ ea] at hx ⊢
      by_cases er : a ∈ (List.range 6).map r
      · rw [vr_up_in er] at hx ⊢
        exact ⟨List.mem_cons_of_mem _ (List.mem_append_right _ er), Option.some.inj hx⟩
      · rw [vr_up_ne er] at hx ⊢
        exact ⟨List.mem_cons_of_mem _ (List.mem_append_left _ (h3 a x hx).1), (h3 a x hx).2⟩
end NV

set_option maxHeartbeats 4000000 in
set_option maxRecDepth 100000 in
theorem c_Hand_init (l : Launch) (D : va_G) (B : Nat) (K : Nat → ClassId) (f : St) (a0 : Nat) (x0 : Value) (h0 : f a0 = some (.inr (2, [x0]))) : Kc l D B K yX2_init cX2_init 1 none 1 1 8 [.ref a0] f (Qv_ D B (fun f9 => ∃ q, f q = none ∧ f9 = va_up (va_up f q (some (.inl (K 1, 8, .inr (.inl (fun _ => 0)))))) a0 (some (.inr (2, [.ref q]))))) := by
  refine v_met [(0, .ref a0)] (by decide) (Nat.le_of_ble_eq_true rfl) rfl ?_
  intro p e s m args below meth c C hr hlk hin
  refine v_aload_n C dX2_init_0 rfl rfl ?_
  refine v_obj C dX2_init_1 g_ml_X2_3 g_obj1 g_obj2 (rn_le (by decide)) (Nat.le_of_ble_eq_true rfl) ?_
  refine v_aload_n C dX2_init_4 rfl rfl ?_
  refine v_bipush (v := 8) C dX2_init_5 (by decide) ?_
  refine v_newa (N := 8) (a0 := (8, .inr (.inl (fun _ => 0)))) C dX2_init_7 1 rfl rfl g_ac_long (fun cA => rfl) (by decide) rfl (by decide) (Nat.le_of_ble_eq_true rfl) (Nat.le_of_ble_eq_true rfl) (fun q hq => ?_)
  refine v_putF (ci := 2) (fs := [x0]) C dX2_init_9 0 (by rw [va_up_ne _ _ (fun e9 => by rw [e9, hq] at h0; cases h0)]; exact h0) rfl in_X2 tyX2 tyX2_ok nmX2 (by decide) g_fl_X2_9 (fun _ h9 => h9) rfl hin rfl (tyX_at tyX2_ok (by decide)) rfl rfl (Nat.le_of_ble_eq_true rfl) ?_
  exact v_vret C hr hlk dX2_init_12 (Nat.le_refl _) (Nat.le_refl _) ⟨q, hq, rfl⟩

def rOf (a0 q1 q2 q3 q4 q5 q6 q7 q8 q9 q10 q11 q12 q19 q20 : Nat) : Nat → Nat := fun k => match k with
  | 0 => a0
  | 1 => q1
  | 2 => q2
  | 3 => q3
  | 4 => q4
  | 5 => q5
  | 6 => q6
  | 7 => q7
  | 8 => q8
  | 9 => q9
  | 10 => q10
  | 11 => q11
  | 12 => q12
  | 19 => q19
  | 20 => q20
  | _ => 0

set_option maxHeartbeats 4000000 in
set_option maxRecDepth 100000 in
theorem c_Model_init (l : Launch) (D : va_G) (B : Nat) (K : Nat → ClassId) (f : St) (a0 : Nat) (h0 : f a0 = some (.inr (7, [.int 0, .null, .null, .null, .null, .null, .null, .null, .null, .null, .null, .null, .null, .int 0, .int 0, .int 0, .int 0, .int 0, .int 0, .null, .null, .int 0]))) : Kc l D B K yX9_init cX9_init 1 none 1 14 3662 [.ref a0] f (Qv_ D B (fun f9 => ∃ r : Nat → Nat, r 0 = a0 ∧ MC K r f f9 (fun _ _ => 0) (fun _ _ => 0) (fun _ => 0) ∧ ∀ k ∈ maL, r k = a0 ∨ f (r k) = none)) := by
  refine v_met [(0, .ref a0)] (by decide) (Nat.le_of_ble_eq_true rfl) rfl ?_
  intro p e s m args below meth c C hr hlk hin
  refine v_aload_n C dX9_init_0 rfl rfl ?_
  refine v_obj C dX9_init_1 g_ml_X9_1 g_obj1 g_obj2 (rn_le (by decide)) (Nat.le_of_ble_eq_true rfl) ?_
  have H0 := hs_one h0
  refine v_aload_n C dX9_init_4 rfl rfl ?_
  refine v_bipush (v := 40) C dX9_init_5 (by decide) ?_
  refine n_newa (N := 40) (a0 := (40, .inl (fun _ => 0))) C H0 dX9_init_7 0 rfl rfl g_ac_int (fun cA => rfl) (by decide) rfl (by decide) (Nat.le_of_ble_eq_true rfl) (Nat.le_of_ble_eq_true rfl) (fun q1 f1a H1a => ?_)
  refine n_putF (fs2 := [.int 0, .ref q1, .null, .null, .null, .null, .null, .null, .null, .null, .null, .null, .null, .int 0, .int 0, .int 0, .int 0, .int 0, .int 0, .null, .null, .int 0]) C H1a dX9_init_9 1 rfl in_X9 tyX9 tyX9_ok nmX9 (by decide) g_fl_X9_7 (fun _ h9 => h9) rfl hin rfl (tyX_at tyX9_ok (by decide)) rfl rfl (Nat.le_of_ble_eq_true rfl) rfl (fun f1 H1 => ?_)
  refine v_aload_n C dX9_init_12 rfl rfl ?_
  refine v_bipush (v := 40) C dX9_init_13 (by decide) ?_
  refine n_newa (N := 40) (a0 := (40, .inl (fun _ => 0))) C H1 dX9_init_15 0 rfl rfl g_ac_int (fun cA => rfl) (by decide) rfl (by decide) (Nat.le_of_ble_eq_true rfl) (Nat.le_of_ble_eq_true rfl) (fun q2 f2a H2a => ?_)
  refine n_putF (fs2 := [.int 0, .ref q1, .ref q2, .null, .null, .null, .null, .null, .null, .null, .null, .null, .null, .int 0, .int 0, .int 0, .int 0, .int 0, .int 0, .null, .null, .int 0]) C H2a dX9_init_17 2 rfl in_X9 tyX9 tyX9_ok nmX9 (by decide) g_fl_X9_13 (fun _ h9 => h9) rfl hin rfl (tyX_at tyX9_ok (by decide)) rfl rfl (Nat.le_of_ble_eq_true rfl) rfl (fun f2 H2 => ?_)
  refine v_aload_n C dX9_init_20 rfl rfl ?_
  refine v_bipush (v := 40) C dX9_init_21 (by decide) ?_
  refine n_newa (N := 40) (a0 := (40, .inl (fun _ => 0))) C H2 dX9_init_23 0 rfl rfl g_ac_int (fun cA => rfl) (by decide) rfl (by decide) (Nat.le_of_ble_eq_true rfl) (Nat.le_of_ble_eq_true rfl) (fun q3 f3a H3a => ?_)
  refine n_putF (fs2 := [.int 0, .ref q1, .ref q2, .ref q3, .null, .null, .null, .null, .null, .null, .null, .null, .null, .int 0, .int 0, .int 0, .int 0, .int 0, .int 0, .null, .null, .int 0]) C H3a dX9_init_25 3 rfl in_X9 tyX9 tyX9_ok nmX9 (by decide) g_fl_X9_16 (fun _ h9 => h9) rfl hin rfl (tyX_at tyX9_ok (by decide)) rfl rfl (Nat.le_of_ble_eq_true rfl) rfl (fun f3 H3 => ?_)
  refine v_aload_n C dX9_init_28 rfl rfl ?_
  refine v_bipush (v := 40) C dX9_init_29 (by decide) ?_
  refine n_newa (N := 40) (a0 := (40, .inr (.inl (fun _ => 0)))) C H3 dX9_init_31 1 rfl rfl g_ac_long (fun cA => rfl) (by decide) rfl (by decide) (Nat.le_of_ble_eq_true rfl) (Nat.le_of_ble_eq_true rfl) (fun q4 f4a H4a => ?_)
  refine n_putF (fs2 := [.int 0, .ref q1, .ref q2, .ref q3, .ref q4, .null, .null, .null, .null, .null, .null, .null, .null, .int 0, .int 0, .int 0, .int 0, .int 0, .int 0, .null, .null, .int 0]) C H4a dX9_init_33 4 rfl in_X9 tyX9 tyX9_ok nmX9 (by decide) g_fl_X9_19 (fun _ h9 => h9) rfl hin rfl (tyX_at tyX9_ok (by decide)) rfl rfl (Nat.le_of_ble_eq_true rfl) rfl (fun f4 H4 => ?_)
  refine v_aload_n C dX9_init_36 rfl rfl ?_
  refine v_bipush (v := 40) C dX9_init_37 (by decide) ?_
  refine n_newa (N := 40) (a0 := (40, .inr (.inl (fun _ => 0)))) C H4 dX9_init_39 1 rfl rfl g_ac_long (fun cA => rfl) (by decide) rfl (by decide) (Nat.le_of_ble_eq_true rfl) (Nat.le_of_ble_eq_true rfl) (fun q5 f5a H5a => ?_)
  refine n_putF (fs2 := [.int 0, .ref q1, .ref q2, .ref q3, .ref q4, .ref q5, .null, .null, .null, .null, .null, .null, .null, .int 0, .int 0, .int 0, .int 0, .int 0, .int 0, .null, .null, .int 0]) C H5a dX9_init_41 5 rfl in_X9 tyX9 tyX9_ok nmX9 (by decide) g_fl_X9_23 (fun _ h9 => h9) rfl hin rfl (tyX_at tyX9_ok (by decide)) rfl rfl (Nat.le_of_ble_eq_true rfl) rfl (fun f5 H5 => ?_)
  refine v_aload_n C dX9_init_44 rfl rfl ?_
  refine v_bipush (v := 40) C dX9_init_45 (by decide) ?_
  refine n_newa (N := 40) (a0 := (40, .inr (.inl (fun _ => 0)))) C H5 dX9_init_47 1 rfl rfl g_ac_long (fun cA => rfl) (by decide) rfl (by decide) (Nat.le_of_ble_eq_true rfl) (Nat.le_of_ble_eq_true rfl) (fun q6 f6a H6a => ?_)
  refine n_putF (fs2 := [.int 0, .ref q1, .ref q2, .ref q3, .ref q4, .ref q5, .ref q6, .null, .null, .null, .null, .null, .null, .int 0, .int 0, .int 0, .int 0, .int 0, .int 0, .null, .null, .int 0]) C H6a dX9_init_49 6 rfl in_X9 tyX9 tyX9_ok nmX9 (by decide) g_fl_X9_26 (fun _ h9 => h9) rfl hin rfl (tyX_at tyX9_ok (by decide)) rfl rfl (Nat.le_of_ble_eq_true rfl) rfl (fun f6 H6 => ?_)
  refine v_aload_n C dX9_init_52 rfl rfl ?_
  refine v_bipush (v := 40) C dX9_init_53 (by decide) ?_
  refine n_newa (N := 40) (a0 := (40, .inl (fun _ => 0))) C H6 dX9_init_55 0 rfl rfl g_ac_int (fun cA => rfl) (by decide) rfl (by decide) (Nat.le_of_ble_eq_true rfl) (Nat.le_of_ble_eq_true rfl) (fun q7 f7a H7a => ?_)
  refine n_putF (fs2 := [.int 0, .ref q1, .ref q2, .ref q3, .ref q4, .ref q5, .ref q6, .ref q7, .null, .null, .null, .null, .null, .int 0, .int 0, .int 0, .int 0, .int 0, .int 0, .null, .null, .int 0]) C H7a dX9_init_57 7 rfl in_X9 tyX9 tyX9_ok nmX9 (by decide) g_fl_X9_29 (fun _ h9 => h9) rfl hin rfl (tyX_at tyX9_ok (by decide)) rfl rfl (Nat.le_of_ble_eq_true rfl) rfl (fun f7 H7 => ?_)
  refine v_aload_n C dX9_init_60 rfl rfl ?_
  refine v_sipush (v := 320) C dX9_init_61 (by decide) ?_
  refine n_newa (N := 320) (a0 := (320, .inl (fun _ => 0))) C H7 dX9_init_64 0 rfl rfl g_ac_int (fun cA => rfl) (by decide) rfl (by decide) (Nat.le_of_ble_eq_true rfl) (Nat.le_of_ble_eq_true rfl) (fun q8 f8a H8a => ?_)
  refine n_putF (fs2 := [.int 0, .ref q1, .ref q2, .ref q3, .ref q4, .ref q5, .ref q6, .ref q7, .ref q8, .null, .null, .null, .null, .int 0, .int 0, .int 0, .int 0, .int 0, .int 0, .null, .null, .int 0]) C H8a dX9_init_66 8 rfl in_X9 tyX9 tyX9_ok nmX9 (by decide) g_fl_X9_32 (fun _ h9 => h9) rfl hin rfl (tyX_at tyX9_ok (by decide)) rfl rfl (Nat.le_of_ble_eq_true rfl) rfl (fun f8 H8 => ?_)
  refine v_aload_n C dX9_init_69 rfl rfl ?_
  refine v_sipush (v := 320) C dX9_init_70 (by decide) ?_
  refine n_newa (N := 320) (a0 := (320, .inl (fun _ => 0))) C H8 dX9_init_73 2 rfl rfl g_ac_boolean (fun cA => rfl) (by decide) rfl (by decide) (Nat.le_of_ble_eq_true rfl) (Nat.le_of_ble_eq_true rfl) (fun q9 f9a H9a => ?_)
  refine n_putF (fs2 := [.int 0, .ref q1, .ref q2, .ref q3, .ref q4, .ref q5, .ref q6, .ref q7, .ref q8, .ref q9, .null, .null, .null, .int 0, .int 0, .int 0, .int 0, .int 0, .int 0, .null, .null, .int 0]) C H9a dX9_init_75 9 rfl in_X9 tyX9 tyX9_ok nmX9 (by decide) g_fl_X9_35 (fun _ h9 => h9) rfl hin rfl (tyX_at tyX9_ok (by decide)) rfl rfl (Nat.le_of_ble_eq_true rfl) rfl (fun f9 H9 => ?_)
  refine v_aload_n C dX9_init_78 rfl rfl ?_
  refine v_sipush (v := 320) C dX9_init_79 (by decide) ?_
  refine n_newa (N := 320) (a0 := (320, .inl (fun _ => 0))) C H9 dX9_init_82 0 rfl rfl g_ac_int (fun cA => rfl) (by decide) rfl (by decide) (Nat.le_of_ble_eq_true rfl) (Nat.le_of_ble_eq_true rfl) (fun q10 f10a H10a => ?_)
  refine n_putF (fs2 := [.int 0, .ref q1, .ref q2, .ref q3, .ref q4, .ref q5, .ref q6, .ref q7, .ref q8, .ref q9, .ref q10, .null, .null, .int 0, .int 0, .int 0, .int 0, .int 0, .int 0, .null, .null, .int 0]) C H10a dX9_init_84 10 rfl in_X9 tyX9 tyX9_ok nmX9 (by decide) g_fl_X9_39 (fun _ h9 => h9) rfl hin rfl (tyX_at tyX9_ok (by decide)) rfl rfl (Nat.le_of_ble_eq_true rfl) rfl (fun f10 H10 => ?_)
  refine v_aload_n C dX9_init_87 rfl rfl ?_
  refine v_bipush (v := 8) C dX9_init_88 (by decide) ?_
  refine n_newa (N := 8) (a0 := (8, .inr (.inl (fun _ => 0)))) C H10 dX9_init_90 1 rfl rfl g_ac_long (fun cA => rfl) (by decide) rfl (by decide) (Nat.le_of_ble_eq_true rfl) (Nat.le_of_ble_eq_true rfl) (fun q11 f11a H11a => ?_)
  refine n_putF (fs2 := [.int 0, .ref q1, .ref q2, .ref q3, .ref q4, .ref q5, .ref q6, .ref q7, .ref q8, .ref q9, .ref q10, .ref q11, .null, .int 0, .int 0, .int 0, .int 0, .int 0, .int 0, .null, .null, .int 0]) C H11a dX9_init_92 11 rfl in_X9 tyX9 tyX9_ok nmX9 (by decide) g_fl_X9_42 (fun _ h9 => h9) rfl hin rfl (tyX_at tyX9_ok (by decide)) rfl rfl (Nat.le_of_ble_eq_true rfl) rfl (fun f11 H11 => ?_)
  refine v_aload_n C dX9_init_95 rfl rfl ?_
  refine v_bipush (v := 8) C dX9_init_96 (by decide) ?_
  refine n_newa (N := 8) (a0 := (8, .inr (.inl (fun _ => 0)))) C H11 dX9_init_98 1 rfl rfl g_ac_long (fun cA => rfl) (by decide) rfl (by decide) (Nat.le_of_ble_eq_true rfl) (Nat.le_of_ble_eq_true rfl) (fun q12 f12a H12a => ?_)
  refine n_putF (fs2 := [.int 0, .ref q1, .ref q2, .ref q3, .ref q4, .ref q5, .ref q6, .ref q7, .ref q8, .ref q9, .ref q10, .ref q11, .ref q12, .int 0, .int 0, .int 0, .int 0, .int 0, .int 0, .null, .null, .int 0]) C H12a dX9_init_100 12 rfl in_X9 tyX9 tyX9_ok nmX9 (by decide) g_fl_X9_45 (fun _ h9 => h9) rfl hin rfl (tyX_at tyX9_ok (by decide)) rfl rfl (Nat.le_of_ble_eq_true rfl) rfl (fun f12 H12 => ?_)
  refine v_aload_n C dX9_init_103 rfl rfl ?_
  refine v_bipush (v := 6) C dX9_init_104 (by decide) ?_
  refine n_newa (N := 6) (a0 := (6, .inl (fun _ => 0))) C H12 dX9_init_106 0 rfl rfl g_ac_int (fun cA => rfl) (by decide) rfl (by decide) (Nat.le_of_ble_eq_true rfl) (Nat.le_of_ble_eq_true rfl) (fun q19 f19a H19a => ?_)
  refine n_putF (fs2 := [.int 0, .ref q1, .ref q2, .ref q3, .ref q4, .ref q5, .ref q6, .ref q7, .ref q8, .ref q9, .ref q10, .ref q11, .ref q12, .int 0, .int 0, .int 0, .int 0, .int 0, .int 0, .ref q19, .null, .int 0]) C H19a dX9_init_108 19 rfl in_X9 tyX9 tyX9_ok nmX9 (by decide) g_fl_X9_48 (fun _ h9 => h9) rfl hin rfl (tyX_at tyX9_ok (by decide)) rfl rfl (Nat.le_of_ble_eq_true rfl) rfl (fun f19 H19 => ?_)
  refine v_aload_n C dX9_init_111 rfl rfl ?_
  refine v_sipush (v := 2400) C dX9_init_112 (by decide) ?_
  refine n_newa (N := 2400) (a0 := (2400, .inl (fun _ => 0))) C H19 dX9_init_115 0 rfl rfl g_ac_int (fun cA => rfl) (by decide) rfl (by decide) (Nat.le_of_ble_eq_true rfl) (Nat.le_of_ble_eq_true rfl) (fun q20 f20a H20a => ?_)
  refine n_putF (fs2 := [.int 0, .ref q1, .ref q2, .ref q3, .ref q4, .ref q5, .ref q6, .ref q7, .ref q8, .ref q9, .ref q10, .ref q11, .ref q12, .int 0, .int 0, .int 0, .int 0, .int 0, .int 0, .ref q19, .ref q20, .int 0]) C H20a dX9_init_117 20 rfl in_X9 tyX9 tyX9_ok nmX9 (by decide) g_fl_X9_51 (fun _ h9 => h9) rfl hin rfl (tyX_at tyX9_ok (by decide)) rfl rfl (Nat.le_of_ble_eq_true rfl) rfl (fun f20 H20 => ?_)
  refine v_vret C hr hlk dX9_init_120 (Nat.le_of_ble_eq_true rfl) (Nat.le_of_ble_eq_true rfl) ⟨rOf a0 q1 q2 q3 q4 q5 q6 q7 q8 q9 q10 q11 q12 q19 q20, rfl, ?_⟩
  have HL : Hs a0 f f20 [(a0, .inr (7, [.int 0, .ref q1, .ref q2, .ref q3, .ref q4, .ref q5, .ref q6, .ref q7, .ref q8, .ref q9, .ref q10, .ref q11, .ref q12, .int 0, .int 0, .int 0, .int 0, .int 0, .int 0, .ref q19, .ref q20, .int 0])), (q1, .inl (K 0, 40, .inl (fun _ => 0))), (q2, .inl (K 0, 40, .inl (fun _ => 0))), (q3, .inl (K 0, 40, .inl (fun _ => 0))), (q4, .inl (K 1, 40, .inr (.inl (fun _ => 0)))), (q5, .inl (K 1, 40, .inr (.inl (fun _ => 0)))), (q6, .inl (K 1, 40, .inr (.inl (fun _ => 0)))), (q7, .inl (K 0, 40, .inl (fun _ => 0))), (q8, .inl (K 0, 320, .inl (fun _ => 0))), (q9, .inl (K 2, 320, .inl (fun _ => 0))), (q10, .inl (K 0, 320, .inl (fun _ => 0))), (q11, .inl (K 1, 8, .inr (.inl (fun _ => 0)))), (q12, .inl (K 1, 8, .inr (.inl (fun _ => 0)))), (q19, .inl (K 0, 6, .inl (fun _ => 0))), (q20, .inl (K 0, 2400, .inl (fun _ => 0)))] := H20
  obtain ⟨g1, g2, g3, g4⟩ := HL
  have G : ∀ (i : Nat) (p : Nat × va_E), _[i]? = some p → _ := fun i p hp => g1 p (List.mem_of_getElem? hp)
  refine ⟨⟨G 0 _ rfl, fun k hk => ?_, G 9 _ rfl, fun k hk => ?_, inj_of_nodup (l := maL) g2, fun a x ha hx => g3 a x (fun p hp => ?_) hx⟩, fun k hk => ?_⟩
  · simp only [List.mem_cons, List.not_mem_nil, or_false] at hk
    rcases hk with rfl | rfl | rfl | rfl | rfl | rfl | rfl | rfl
    · exact G 1 _ rfl
    · exact G 2 _ rfl
    · exact G 3 _ rfl
    · exact G 7 _ rfl
    · exact G 8 _ rfl
    · exact G 10 _ rfl
    · exact G 13 _ rfl
    · exact G 14 _ rfl
  · simp only [List.mem_cons, List.not_mem_nil, or_false] at hk
    rcases hk with rfl | rfl | rfl | rfl | rfl
    · exact G 4 _ rfl
    · exact G 5 _ rfl
    · exact G 6 _ rfl
    · exact G 11 _ rfl
    · exact G 12 _ rfl
  · have hp2 : p.1 ∈ List.map (fun p : Nat × va_E => p.1) _ := List.mem_map.mpr ⟨p, hp, rfl⟩
    obtain ⟨j, hj, ej⟩ := List.mem_map.mp (show p.1 ∈ maL.map (rOf a0 q1 q2 q3 q4 q5 q6 q7 q8 q9 q10 q11 q12 q19 q20) from hp2)
    rw [← ej]; exact ha j hj
  · have G4 : ∀ (i : Nat) (p : Nat × va_E), _[i]? = some p → _ := fun i p hp => g4 p (List.mem_of_getElem? hp)
    simp only [List.mem_cons, List.not_mem_nil, or_false] at hk
    rcases hk with rfl | rfl | rfl | rfl | rfl | rfl | rfl | rfl | rfl | rfl | rfl | rfl | rfl | rfl | rfl
    · exact G4 0 _ rfl
    · exact G4 1 _ rfl
    · exact G4 2 _ rfl
    · exact G4 3 _ rfl
    · exact G4 4 _ rfl
    · exact G4 5 _ rfl
    · exact G4 6 _ rfl
    · exact G4 7 _ rfl
    · exact G4 8 _ rfl
    · exact G4 9 _ rfl
    · exact G4 10 _ rfl
    · exact G4 11 _ rfl
    · exact G4 12 _ rfl
    · exact G4 13 _ rfl
    · exact G4 14 _ rfl

set_option maxHeartbeats 4000000 in
set_option maxRecDepth 100000 in
theorem n_hand {p : Program} {l : Launch} {e : Env} {R : Room} {s : State} {m : MethodId} {args : Array Value} {below : List Frame} {meth : Method} {c : Code} {D : va_G} {B nL : Nat} {Q : State → Prop} {ce sl : Nat} {a9 : Nat} {f f0 : St} {lv : Lv} {pc : Nat} {st : List Value} {cc : ByteArray} {K : Nat → ClassId} (C : Cx p s m args c cc nL RX8 D B K) {h0 : Nat × va_E} {ps : List (Nat × va_E)} (hH : Hs a9 f0 f (h0 :: ps)) (d0 : decode cc pc = .ok (.new 7, 3)) (d3 : decode cc (pc + 3) = .ok (.dup, 1)) (d4 : decode cc (pc + 3 + 1) = .ok (.invokespecial 9, 3)) (hR : RN R 2) (hst : ∀ h : Nat, ((Value.ref h :: st).map fun v => v.category).sum ≤ 8) (hce : ce + 1 + 1 ≤ R.cells) (hsl : sl + 1 + 8 ≤ R.slots) (k : ∀ h q f2, Hs a9 f0 f2 (h0 :: (ps ++ [(h, .inr (2, [.ref q])), (q, .inl (K 1, 8, .inr (.inl (fun _ => 0))))])) → V p l e R s m args below meth c D B nL Q (ce + 1 + 1) (sl + 1 + 8) f2 lv (pc + 3 + 1 + 3) (.ref h :: st)) : V p l e R s m args below meth c D B nL Q ce sl f lv pc st := by
  refine n_new (ci := 2) (fs := [.null]) C hH d0 rfl in_X2 tyX2 tyX2_ok g_cl_X8_7 g_ins_X2 g_in_X2 (by decide) (by omega) (by omega) (fun h f2 H2 => ?_)
  refine v_dup C d3 rfl ?_
  refine v_cv (r_I C (c_Hand_init l D B K f2 h _ (H2.1 (h, .inr (2, [.null])) (List.mem_cons_of_mem _ (List.mem_append_right _ List.mem_cons_self)))) d4 g_ml_X8_9 g_im_yX2_init g_in_X2 g_cd_yX2_init rfl hR (by decide) rfl hdn_yX2_init (hst h) ⟨hce, hsl⟩) (fun f3 h3 => ?_)
  obtain ⟨q, hq, rfl⟩ := h3
  have H3 := hs_new H2 hq (.inl (K 1, 8, .inr (.inl (fun _ => 0))))
  rw [show (h0 :: (ps ++ [(h, (.inr (2, [.null]) : va_E))])) ++ [(q, .inl (K 1, 8, .inr (.inl (fun _ => 0))))] = (h0 :: ps) ++ (h, .inr (2, [.null])) :: [(q, .inl (K 1, 8, .inr (.inl (fun _ => 0))))] by simp] at H3
  exact k h q _ (hs_set (h0 :: ps) H3 _)

def qOf (a0 q1 q7 q2 q8 q3 q4 q5 q6 : Nat) (r : Nat → Nat) : Nat → Nat := fun k => match k with
  | 0 => a0
  | 1 => q1
  | 2 => q2
  | 3 => q3
  | 4 => q4
  | 5 => q5
  | 6 => q6
  | 7 => q7
  | 8 => q8
  | k + 9 => r k
def S0 : AS := (0, 0, fun _ => (0, 0, 0, 1), fun _ => [], fun _ => 0, (0, 0, 0, 0), fun _ => 0, fun _ => 0, fun _ _ => 0)
theorem okS0 : okS (0, 0, 0, 1) := by unfold okS; decide
theorem CL_S0 {K : Nat → ClassId} {q : Nat → Nat} {f : St} (h : ClC K q f 0 0 0 0 0 0 (fun _ => none) (fun _ => none) (fun _ => 0) (fun _ => 0) (fun _ _ => 0)) : CL K q f S0 :=
  ⟨fun _ => 0, fun _ _ => 0, fun _ _ => rfl, fun _ _ _ _ => rfl, fun _ => none, fun _ => 0, fun _ => none, fun _ => none, fun _ => 0, h, fun a x hx => (by cases hx), fun _ _ => rfl, ⟨fun _ => okS0, fun i hi => absurd hi (Nat.not_lt_zero i)⟩, Nat.zero_le _, fun i hi => absurd hi (Nat.not_lt_zero i), Nat.zero_le _, fun i hi => absurd hi (Nat.not_lt_zero i), fun i hi => absurd hi (Nat.not_lt_zero i)⟩
theorem MD_S0 {K : Nat → ClassId} {r : Nat → Nat} {f0 f : St} (h : MC K r f0 f (fun _ _ => 0) (fun _ _ => 0) (fun _ => 0)) : MD K r f0 f S0 :=
  ⟨_, _, _, h, rfl, Nat.zero_le _, fun i hi => absurd hi (Nat.not_lt_zero i), rfl, fun h9 => absurd rfl h9, rfl, rfl, Nat.zero_le _, fun i hi => absurd hi (Nat.not_lt_zero i), fun _ _ => rfl, fun _ => okS0⟩

theorem hs_mna {a0 : Nat} {f0 f f2 : St} {h0 : Nat × va_E} {ps : List (Nat × va_E)} (h : Hs a0 f0 f (h0 :: ps)) {q : Nat} {r : Nat → Nat} {x z : va_E} (hi : ∀ i j, i < 6 → j < 6 → r i = r j → i = j) (hq : ∀ i, i < 6 → r i ≠ q) (hk : ∀ a x, f a = some x → f2 a = some x ∧ a ≠ q ∧ ∀ i, i < 6 → a ≠ r i) (h1 : f2 q = some x) (h2 : ∀ i, i < 6 → f2 (r i) = some z) : Hs a0 f0 f2 (h0 :: (ps ++ [(q, x), (r 0, z), (r 1, z), (r 2, z), (r 3, z), (r 4, z), (r 5, z)])) := by
  have e9 : ([(q, x), (r 0, z), (r 1, z), (r 2, z), (r 3, z), (r 4, z), (r 5, z)] : List (Nat × va_E)) = (q, x) :: (List.range 6).map (fun i => (r i, z)) := rfl
  have hnew : ∀ p ∈ (q, x) :: (List.range 6).map (fun i => (r i, z)), f2 p.1 = some p.2 ∧ ∀ a y, f a = some y → a ≠ p.1 := fun p hp => by
    rcases List.mem_cons.mp hp with e | e
    · subst e; exact ⟨h1, fun a y hy => (hk a y hy).2.1⟩
    · obtain ⟨i, h6, rfl⟩ := List.mem_map.mp e
      exact ⟨h2 i (List.mem_range.mp h6), fun a y hy => (hk a y hy).2.2 i (List.mem_range.mp h6)⟩
  rw [e9, ← List.cons_append]
  refine ⟨fun p hp => ?_, ?_, fun a y ha hy => ?_, fun p hp => ?_⟩
  · rcases List.mem_append.mp hp with e | e
    · exact (hk _ _ (h.1 p e)).1
    · exact (hnew p e).1
  · rw [List.map_append]
    refine List.nodup_append.mpr ⟨h.2.1, ?_, fun a ha b hb => ?_⟩
    · rw [List.map_cons, List.map_map]
      refine List.nodup_cons.mpr ⟨fun hm => ?_, ?_⟩
      · obtain ⟨i, h6, e⟩ := List.mem_map.mp hm
        exact hq i (List.mem_range.mp h6) e
      · refine List.Pairwise.map _ (R := fun i j => i ∈ List.range 6 ∧ j ∈ List.range 6 ∧ i ≠ j) (fun i j hij e => hij.2.2 (hi i j (List.mem_range.mp hij.1) (List.mem_range.mp hij.2.1) e)) (by decide)
    · obtain ⟨p, hp, rfl⟩ := List.mem_map.mp ha
      obtain ⟨p2, hp2, rfl⟩ := List.mem_map.mp hb
      exact (hnew p2 hp2).2 _ _ (h.1 p hp)
  · exact (hk a y (h.2.2.1 a y (fun p hp => ha p (List.mem_append_left _ hp)) hy)).1
  · rcases List.mem_append.mp hp with e | e
    · exact h.2.2.2 p e
    · cases hf : f0 p.1 with
      | none => exact Or.inr rfl
      | some y =>
        by_cases hc : ∃ p2 ∈ h0 :: ps, p.1 = p2.1
        · obtain ⟨p2, hp2, e2⟩ := hc
          exact absurd e2.symm ((hnew p e).2 _ _ (h.1 p2 hp2))
        · exact absurd rfl ((hnew p e).2 _ _ (h.2.2.1 p.1 y (fun p2 hp2 e2 => hc ⟨p2, hp2, e2⟩) hf))

set_option maxHeartbeats 4000000 in
set_option maxRecDepth 100000 in
theorem c_Ranges_init (l : Launch) (D : va_G) (B : Nat) (K : Nat → ClassId) (f : St) (a0 : Nat) (h0 : f a0 = some (.inr (6, [.null, .null, .null, .null, .null, .null, .int 0, .int 0]))) : Kc l D B K yX8_init cX8_init 1 none 3 14 2474 [.ref a0] f (Qv_ D B (fun f9 => ∃ q : Nat → Nat, q 0 = a0 ∧ CL K q f9 S0 ∧ Out q f f9 ∧ ∀ j, j < 15 → q j = a0 ∨ f (q j) = none)) := by
  refine v_met [(0, .ref a0)] (by decide) (Nat.le_of_ble_eq_true rfl) rfl ?_
  intro p e s m args below meth c C hr hlk hin
  refine v_aload_n C dX8_init_0 rfl rfl ?_
  refine v_obj C dX8_init_1 g_ml_X8_1 g_obj1 g_obj2 (rn_le (by decide)) (Nat.le_of_ble_eq_true rfl) ?_
  have H0 := hs_one h0
  refine v_aload_n C dX8_init_4 rfl rfl ?_
  refine n_hand C H0 dX8_init_5 dX8_init_8 dX8_init_9 (rn_le (by decide)) (fun h => (Nat.le_of_ble_eq_true rfl)) (Nat.le_of_ble_eq_true rfl) (Nat.le_of_ble_eq_true rfl) (fun q1 q7 f1 H1 => ?_)
  refine n_putF (fs2 := [.ref q1, .null, .null, .null, .null, .null, .int 0, .int 0]) C H1 dX8_init_12 0 rfl in_X8 tyX8 tyX8_ok nmX8 (by decide) g_fl_X8_10 (fun _ h9 => h9) rfl hin rfl (tyX_at tyX8_ok (by decide)) rfl rfl (Nat.le_of_ble_eq_true rfl) rfl (fun f2 H2 => ?_)
  refine v_aload_n C dX8_init_15 rfl rfl ?_
  refine n_hand C H2 dX8_init_16 dX8_init_19 dX8_init_20 (rn_le (by decide)) (fun h => (Nat.le_of_ble_eq_true rfl)) (Nat.le_of_ble_eq_true rfl) (Nat.le_of_ble_eq_true rfl) (fun q2 q8 f3 H3 => ?_)
  refine n_putF (fs2 := [.ref q1, .ref q2, .null, .null, .null, .null, .int 0, .int 0]) C H3 dX8_init_23 1 rfl in_X8 tyX8 tyX8_ok nmX8 (by decide) g_fl_X8_16 (fun _ h9 => h9) rfl hin rfl (tyX_at tyX8_ok (by decide)) rfl rfl (Nat.le_of_ble_eq_true rfl) rfl (fun f4 H4 => ?_)
  refine v_aload_n C dX8_init_26 rfl rfl ?_
  refine n_new (ci := 3) (fs := [.int 0, .int 0, .int 0, .int 0]) C H4 dX8_init_27 rfl in_X3 tyX3 tyX3_ok g_cl_X8_19 g_ins_X3 g_in_X3 (by decide) (Nat.le_of_ble_eq_true rfl) (Nat.le_of_ble_eq_true rfl) (fun q3 f5 H5 => ?_)
  refine v_dup C dX8_init_30 rfl ?_
  refine v_cv (r_IN C (host := RX8) (c_Miss_init l D B K f5 q3) dX8_init_31 (by decide +kernel) g_im_yX3_init g_in_X3 g_cd_yX3_init rfl (rn_le (by decide)) (by decide) rfl hdn_yX3_init (Nat.le_of_ble_eq_true rfl) ⟨(Nat.le_of_ble_eq_true rfl), (Nat.le_of_ble_eq_true rfl)⟩) (fun f6 h6 => ?_)
  subst h6
  refine n_putF (fs2 := [.ref q1, .ref q2, .ref q3, .null, .null, .null, .int 0, .int 0]) C H5 dX8_init_34 2 rfl in_X8 tyX8 tyX8_ok nmX8 (by decide) g_fl_X8_22 (fun _ h9 => h9) rfl hin rfl (tyX_at tyX8_ok (by decide)) rfl rfl (Nat.le_of_ble_eq_true rfl) rfl (fun f7 H7 => ?_)
  refine v_aload_n C dX8_init_37 rfl rfl ?_
  refine v_bipush (v := 40) C dX8_init_38 (by decide) ?_
  refine n_newq (N := 40) C H7 dX8_init_40 g_cl_X8_26 (by decide) rfl (by decide) (Nat.le_of_ble_eq_true rfl) (Nat.le_of_ble_eq_true rfl) (fun q4 f8 H8 => ?_)
  refine n_putF (fs2 := [.ref q1, .ref q2, .ref q3, .ref q4, .null, .null, .int 0, .int 0]) C H8 dX8_init_43 3 rfl in_X8 tyX8 tyX8_ok nmX8 (by decide) g_fl_X8_28 (fun _ h9 => h9) rfl hin rfl (tyX_at tyX8_ok (by decide)) rfl rfl (Nat.le_of_ble_eq_true rfl) rfl (fun f9 H9 => ?_)
  refine v_aload_n C dX8_init_46 rfl rfl ?_
  refine v_bipush (v := 6) C dX8_init_47 (by decide) ?_
  refine n_newq (N := 6) C H9 dX8_init_49 g_cl_X8_26 (by decide) rfl (by decide) (Nat.le_of_ble_eq_true rfl) (Nat.le_of_ble_eq_true rfl) (fun q5 f10 H10 => ?_)
  refine n_putF (fs2 := [.ref q1, .ref q2, .ref q3, .ref q4, .ref q5, .null, .int 0, .int 0]) C H10 dX8_init_52 4 rfl in_X8 tyX8 tyX8_ok nmX8 (by decide) g_fl_X8_32 (fun _ h9 => h9) rfl hin rfl (tyX_at tyX8_ok (by decide)) rfl rfl (Nat.le_of_ble_eq_true rfl) rfl (fun f11 H11 => ?_)
  refine v_aload_n C dX8_init_55 rfl rfl ?_
  refine v_bipush (v := 6) C dX8_init_56 (by decide) ?_
  refine v_sipush (v := 400) C dX8_init_58 (by decide) ?_
  refine v_mna C dX8_init_61 g_cl_X8_35 (Nat.le_of_ble_eq_true rfl) (Nat.le_of_ble_eq_true rfl) (fun q6 r f12 hri hrq hke hf6 hfr => ?_)
  have H12 := hs_mna H11 hri hrq hke hf6 hfr
  refine n_putF (fs2 := [.ref q1, .ref q2, .ref q3, .ref q4, .ref q5, .ref q6, .int 0, .int 0]) C H12 dX8_init_65 5 rfl in_X8 tyX8 tyX8_ok nmX8 (by decide) g_fl_X8_37 (fun _ h9 => h9) rfl hin rfl (tyX_at tyX8_ok (by decide)) rfl rfl (Nat.le_of_ble_eq_true rfl) rfl (fun f13 H13 => ?_)
  refine v_aload_n C dX8_init_68 rfl rfl ?_
  refine v_iconst (v := 0) C dX8_init_69 (by decide) ?_
  refine n_put (fs2 := [.ref q1, .ref q2, .ref q3, .ref q4, .ref q5, .ref q6, .int 0, .int 0]) C H13 dX8_init_70 6 rfl in_X8 tyX8 tyX8_ok nmX8 (by decide) g_fl_X8_40 (fun _ h9 => h9) rfl (tyX_at tyX8_ok (by decide)) rfl rfl (Nat.le_of_ble_eq_true rfl) rfl (fun f14 H14 => ?_)
  refine v_aload_n C dX8_init_73 rfl rfl ?_
  refine v_iconst (v := 0) C dX8_init_74 (by decide) ?_
  refine n_put (fs2 := [.ref q1, .ref q2, .ref q3, .ref q4, .ref q5, .ref q6, .int 0, .int 0]) C H14 dX8_init_75 7 rfl in_X8 tyX8 tyX8_ok nmX8 (by decide) g_fl_X8_44 (fun _ h9 => h9) rfl (tyX_at tyX8_ok (by decide)) rfl rfl (Nat.le_of_ble_eq_true rfl) rfl (fun f15 H15 => ?_)
  refine v_vret C hr hlk dX8_init_78 (Nat.le_of_ble_eq_true rfl) (Nat.le_of_ble_eq_true rfl) ⟨qOf a0 q1 q7 q2 q8 q3 q4 q5 q6 r, rfl, ?_⟩
  have HL : Hs a0 f f15 [(a0, .inr (6, [.ref q1, .ref q2, .ref q3, .ref q4, .ref q5, .ref q6, .int 0, .int 0])), (q1, .inr (2, [.ref q7])), (q7, .inl (K 1, 8, .inr (.inl (fun _ => 0)))), (q2, .inr (2, [.ref q8])), (q8, .inl (K 1, 8, .inr (.inl (fun _ => 0)))), (q3, .inr (3, [.int 0, .int 0, .int 0, .int 0])), (q4, .inl (K 3, 40, .inr (.inr (.inr (.inr (fun _ => none)))))), (q5, .inl (K 3, 6, .inr (.inr (.inr (.inr (fun _ => none)))))), (q6, .inl (K 4, 6, .inr (.inr (.inr (.inr (fun i => if i < 6 then some (r i) else none)))))), (r 0, .inl (K 0, 400, .inl (fun _ => 0))), (r 1, .inl (K 0, 400, .inl (fun _ => 0))), (r 2, .inl (K 0, 400, .inl (fun _ => 0))), (r 3, .inl (K 0, 400, .inl (fun _ => 0))), (r 4, .inl (K 0, 400, .inl (fun _ => 0))), (r 5, .inl (K 0, 400, .inl (fun _ => 0)))] := H15
  obtain ⟨g1, g2, g3, g4⟩ := HL
  have G : ∀ (i : Nat) (p : Nat × va_E), _[i]? = some p → _ := fun i p hp => g1 p (List.mem_of_getElem? hp)
  have hinj : ∀ i ∈ ([0, 1, 7, 2, 8, 3, 4, 5, 6, 9, 10, 11, 12, 13, 14] : List Nat), ∀ j ∈ ([0, 1, 7, 2, 8, 3, 4, 5, 6, 9, 10, 11, 12, 13, 14] : List Nat), qOf a0 q1 q7 q2 q8 q3 q4 q5 q6 r i = qOf a0 q1 q7 q2 q8 q3 q4 q5 q6 r j → i = j := inj_of_nodup g2
  have hall : ∀ i, i < 15 → i ∈ ([0, 1, 7, 2, 8, 3, 4, 5, 6, 9, 10, 11, 12, 13, 14] : List Nat) := by decide
  have hin15 : ∀ i ∈ ([0, 1, 7, 2, 8, 3, 4, 5, 6, 9, 10, 11, 12, 13, 14] : List Nat), i < 15 := by decide
  have hq9 : ∀ i, qOf a0 q1 q7 q2 q8 q3 q4 q5 q6 r (9 + i) = r i := fun i => by rw [Nat.add_comm]; rfl
  refine ⟨CL_S0 ⟨G 0 _ rfl, G 1 _ rfl, G 3 _ rfl, G 5 _ rfl, G 6 _ rfl, G 7 _ rfl, by rw [show (fun i => if i < 6 then some (qOf a0 q1 q7 q2 q8 q3 q4 q5 q6 r (9 + i)) else none) = (fun i => if i < 6 then some (r i) else none) from funext fun i => by rw [hq9]]; exact G 8 _ rfl, G 2 _ rfl, G 4 _ rfl, fun i hi => ?_, fun i j hi hj => hinj i (hall i hi) j (hall j hj)⟩, fun a x ha hx => g3 a x (fun p hp => ?_) hx, fun k hk => ?_⟩
  · match i, hi with
    | 0, _ => exact G 9 _ rfl
    | 1, _ => exact G 10 _ rfl
    | 2, _ => exact G 11 _ rfl
    | 3, _ => exact G 12 _ rfl
    | 4, _ => exact G 13 _ rfl
    | 5, _ => exact G 14 _ rfl
  · have hp2 : p.1 ∈ List.map (fun p : Nat × va_E => p.1) _ := List.mem_map.mpr ⟨p, hp, rfl⟩
    obtain ⟨j, hj, ej⟩ := List.mem_map.mp (show p.1 ∈ ([0, 1, 7, 2, 8, 3, 4, 5, 6, 9, 10, 11, 12, 13, 14] : List Nat).map (qOf a0 q1 q7 q2 q8 q3 q4 q5 q6 r) from hp2)
    rw [← ej]; exact ha j (hin15 j hj)
  · have G4 : ∀ (i : Nat) (p : Nat × va_E), _[i]? = some p → _ := fun i p hp => g4 p (List.mem_of_getElem? hp)
    match k, hk with
    | 0, _ => exact G4 0 _ rfl
    | 1, _ => exact G4 1 _ rfl
    | 2, _ => exact G4 3 _ rfl
    | 3, _ => exact G4 5 _ rfl
    | 4, _ => exact G4 6 _ rfl
    | 5, _ => exact G4 7 _ rfl
    | 6, _ => exact G4 8 _ rfl
    | 7, _ => exact G4 2 _ rfl
    | 8, _ => exact G4 4 _ rfl
    | 9, _ => exact G4 9 _ rfl
    | 10, _ => exact G4 10 _ rfl
    | 11, _ => exact G4 11 _ rfl
    | 12, _ => exact G4 12 _ rfl
    | 13, _ => exact G4 13 _ rfl
    | 14, _ => exact G4 14 _ rfl
