/-! the layer of walks: a world is what is known of the cells (f : St), the locals a list, newest first (lv : Lv) -/
abbrev St : Type := Nat → Option va_E
abbrev Lv : Type := List (Nat × Option Value)
abbrev classes : List vw_C := [(RX0, TX0, 5), (RX1, TX1, 5), (RX2, TX2, 1), (RX3, TX3, 4), (RX4, TX4, 6), (RX6, TX6, 7), (RX8, TX8, 8), (RX9, TX9, 22)]
def tyL (K : Nat → ClassId) : List (ClassId × FieldType) := [(K 0, .int), (K 1, .long), (K 2, .boolean), (K 3, .object RX5), (K 4, .array .int)]
def lk : Lv → Nat → Option Value
  | [], _ => none
  | q :: t, i => cond (Nat.beq q.1 i) q.2 (lk t i)
theorem lk_key {lv : Lv} {i : Nat} {v : Value} (h : lk lv i = some v) : i ∈ lv.map (fun q => q.1) := by
  induction lv with
  | nil => cases h
  | cons q t ih =>
    unfold lk at h
    cases hb : Nat.beq q.1 i with
    | true =>
      rw [← Nat.eq_of_beq_eq_true hb]
      exact List.mem_cons_self
    | false =>
      rw [hb] at h
      exact List.mem_cons_of_mem _ (ih h)
def lvL (lv : Lv) : List (Nat × Value) := (lv.map (fun q => q.1)).filterMap (fun i => (lk lv i).map (fun v => (i, v)))
theorem lvL_mem {lv : Lv} {i : Nat} {v : Value} (h : lk lv i = some v) : (i, v) ∈ lvL lv := List.mem_filterMap.mpr ⟨i, lk_key h, by rw [h]; rfl⟩
theorem lvL_of {lv : Lv} {q : Nat × Value} (h : q ∈ lvL lv) : lk lv q.1 = some q.2 := by
  obtain ⟨i, _, h2⟩ := List.mem_filterMap.mp h
  cases hk : lk lv i with
  | none => rw [hk] at h2; cases h2
  | some v => rw [hk] at h2; cases h2; exact hk
def lh (ls : Array Slot) (nL : Nat) (lv : Lv) : Prop := ls.size = nL ∧ lv_wf ls ∧ ∀ i v, lk lv i = some v → ls[i]? = some (.val v)
theorem lh.has {ls : Array Slot} {nL : Nat} {lv : Lv} (h : lh ls nL lv) : lv_has ls nL (lvL lv) := ⟨h.1, h.2.1, fun _ hq => h.2.2 _ _ (lvL_of hq)⟩
def nc (lv : Lv) (i : Nat) : Bool := match i with
  | 0 => true
  | j + 1 => match lk lv j with
    | some w => Nat.beq w.category 1
    | none => true
theorem nc_spec {lv : Lv} {j : Nat} {w : Value} (hn : nc lv (j + 1) = true) (h : lk lv j = some w) : w.category = 1 := by
  have hn2 : (match lk lv j with
    | some w => Nat.beq w.category 1
    | none => true) = true := hn
  rw [h] at hn2
  exact Nat.eq_of_beq_eq_true hn2
theorem lh_put1 {ls' : Array Slot} {nL : Nat} {lv : Lv} {i : Nat} {v : Value} (hn : nc lv i = true) (h : lv_has ls' nL ((i, v) :: (lvL lv).filter (fun q => !(q.1 == i) && !(q.1 + 1 == i && q.2.category == 2)))) : lh ls' nL ((i, some v) :: lv) := by
  refine ⟨h.1, h.2.1, fun j w hw => ?_⟩
  unfold lk at hw
  cases hb : Nat.beq i j with
  | true =>
    simp only [hb, cond_true] at hw
    cases hw
    rw [← Nat.eq_of_beq_eq_true hb]
    exact h.2.2 (i, v) List.mem_cons_self
  | false =>
    simp only [hb, cond_false] at hw
    have hne : j ≠ i := fun e => by rw [e, Nat.beq_refl] at hb; cases hb
    refine h.2.2 (j, w) (List.mem_cons_of_mem _ (List.mem_filter.mpr ⟨lvL_mem hw, ?_⟩))
    by_cases e : j + 1 = i
    · subst e
      have hc := nc_spec hn hw
      simp [hc]
    · simp [hne, e]
theorem lh_put2 {ls' : Array Slot} {nL : Nat} {lv : Lv} {i : Nat} {v : Value} (hn : nc lv i = true) (h : lv_has ls' nL ((i, v) :: (lvL lv).filter (fun q => !(q.1 == i) && (!(q.1 == i + 1) && !(q.1 + 1 == i && q.2.category == 2))))) : lh ls' nL ((i, some v) :: (i + 1, none) :: lv) := by
  refine ⟨h.1, h.2.1, fun j w hw => ?_⟩
  unfold lk at hw
  cases hb : Nat.beq i j with
  | true =>
    simp only [hb, cond_true] at hw
    cases hw
    rw [← Nat.eq_of_beq_eq_true hb]
    exact h.2.2 (i, v) List.mem_cons_self
  | false =>
    simp only [hb, cond_false] at hw
    unfold lk at hw
    cases hb2 : Nat.beq (i + 1) j with
    | true =>
      simp only [hb2, cond_true] at hw
      cases hw
    | false =>
      simp only [hb2, cond_false] at hw
      have hne : j ≠ i := fun e => by rw [e, Nat.beq_refl] at hb; cases hb
      have hne2 : j ≠ i + 1 := fun e => by rw [e, Nat.beq_refl] at hb2; cases hb2
      refine h.2.2 (j, w) (List.mem_cons_of_mem _ (List.mem_filter.mpr ⟨lvL_mem hw, ?_⟩))
      by_cases e : j + 1 = i
      · subst e
        have hc := nc_spec hn hw
        simp [hc]
        omega
      · simp [hne, hne2, e]
/-- the locals of lv' are among those of lv -/
def lsub (lv : Lv) : List (Nat × Value) → Prop
  | [] => True
  | q :: t => lk lv q.1 = some q.2 ∧ lsub lv t
def lof (l : List (Nat × Value)) : Lv := l.map (fun q => (q.1, some q.2))
theorem lsub_lk {lv : Lv} {l : List (Nat × Value)} (h : lsub lv l) {i : Nat} {v : Value} (hk : lk (lof l) i = some v) : lk lv i = some v := by
  induction l with
  | nil => cases hk
  | cons q t ih =>
    unfold lof at hk
    rw [List.map_cons] at hk
    unfold lk at hk
    cases hb : Nat.beq q.1 i with
    | true =>
      simp only [hb, cond_true] at hk
      cases hk
      rw [← Nat.eq_of_beq_eq_true hb]
      exact h.1
    | false =>
      simp only [hb, cond_false] at hk
      exact ih h.2 hk
theorem lh.sub {ls : Array Slot} {nL : Nat} {lv : Lv} {l : List (Nat × Value)} (h : lh ls nL lv) (hs : lsub lv l) : lh ls nL (lof l) := ⟨h.1, h.2.1, fun _ _ hk => h.2.2 _ _ (lsub_lk hs hk)⟩
/-- the heap holds what f says -/
def hw (D : va_G) (B : Nat) (f : St) (H : Heap) : Prop := ∃ (L : List Nat) (g : Nat → va_E), va_P D classes (va_pl L g) H ∧ va_D (fun q => B ≤ q) (va_pl L g) ∧ ∀ a e, f a = some e → a ∈ L ∧ g a = e
theorem hw.sub {D : va_G} {B : Nat} {f f' : St} {H : Heap} (h : hw D B f H) (hs : ∀ a e, f' a = some e → f a = some e) : hw D B f' H := by
  obtain ⟨L, g, h1, h2, h3⟩ := h
  exact ⟨L, g, h1, h2, fun a e he => h3 a e (hs a e he)⟩
theorem hw.one {D : va_G} {B : Nat} {f : St} {H : Heap} (h : hw D B f H) {a : Nat} {x : va_E} (ha : f a = some x) : va_P D classes [(a, x)] H := by
  obtain ⟨L, g, h1, h2, h3⟩ := h
  obtain ⟨hL, hg⟩ := h3 a x ha
  obtain ⟨k, hk⟩ := va_pl_get (X := []) (f := g) hL
  rw [List.nil_append, hg] at hk
  intro i q hq
  match i, hq with
  | 0, hq => cases hq; exact h1 k _ hk
  | i + 1, hq => simp at hq
theorem hw.ge {D : va_G} {B : Nat} {f : St} {H : Heap} (h : hw D B f H) {a : Nat} {x : va_E} (ha : f a = some x) : B ≤ a := by
  obtain ⟨L, g, h1, h2, h3⟩ := h
  obtain ⟨hL, hg⟩ := h3 a x ha
  obtain ⟨k, hk⟩ := va_pl_get (X := []) (f := g) hL
  rw [List.nil_append] at hk
  exact h2.2 k _ hk
theorem hw.lt {D : va_G} {B : Nat} {f : St} {H : Heap} (h : hw D B f H) {a : Nat} {x : va_E} (ha : f a = some x) : a < H.size := vx_lt (hw.one h ha) (k := 0) rfl
theorem hw.kept {D : va_G} {B : Nat} {f : St} {H H1 : Heap} (h : hw D B f H) (hk : ∀ q : Nat, q < H.size → H1[q]? = H[q]?) : hw D B f H1 := by
  obtain ⟨L, g, h1, h2, h3⟩ := h
  exact ⟨L, g, h1.kept (fun k q hq => hk q.1 (vx_lt h1 hq)), h2, h3⟩
/-- one place of the world, for the kit's rows -/
theorem hw.place {D : va_G} {B : Nat} {f : St} {H : Heap} (h : hw D B f H) {a : Nat} {x : va_E} (ha : f a = some x) : ∃ (ws : va_W) (k : Nat), va_P D classes ws H ∧ va_D (fun q => B ≤ q) ws ∧ ws[k]? = some (a, x) ∧ ∀ (y : va_E) (H1 : Heap), va_P D classes (ws.set k (a, y)) H1 → va_D (fun q => B ≤ q) (ws.set k (a, y)) → hw D B (va_up f a (some y)) H1 := by
  obtain ⟨L, g, h1, h2, h3⟩ := h
  obtain ⟨hL, hg⟩ := h3 a x ha
  obtain ⟨k, hk⟩ := va_pl_get (X := []) (f := g) hL
  refine ⟨va_pl L g, k, h1, h2, by rw [List.nil_append, hg] at hk; exact hk, fun y H1 hP hD => ?_⟩
  have e := va_pl_set (e := y) (X := []) h2 hL hk
  rw [List.nil_append, List.nil_append] at e
  rw [e] at hP hD
  refine ⟨L, va_up g a y, hP, hD, fun b z hz => ?_⟩
  by_cases hb : b = a
  · subst hb
    rw [va_up_self] at hz ⊢
    exact ⟨hL, Option.some.inj hz⟩
  · rw [va_up_ne _ _ hb] at hz ⊢
    exact h3 b z hz
/-- something new -/
theorem hw.push {D : va_G} {B : Nat} {f : St} {H : Heap} (h : hw D B f H) : ∃ ws : va_W, va_P D classes ws H ∧ va_D (fun q => B ≤ q) ws ∧ ∀ (q : Nat) (y : va_E) (H1 : Heap), va_P D classes (ws ++ [(q, y)]) H1 → va_D (fun q => B ≤ q) (ws ++ [(q, y)]) → f q = none ∧ hw D B (va_up f q (some y)) H1 := by
  obtain ⟨L, g, h1, h2, h3⟩ := h
  refine ⟨va_pl L g, h1, h2, fun q y H1 hP hD => ?_⟩
  have hq : q ∉ L := va_pl_fresh2 (X := []) (e := y) (by rw [List.nil_append]; exact hD)
  have hn : f q = none := by
    cases hf : f q with
    | none => rfl
    | some z => exact absurd (h3 q z hf).1 hq
  refine ⟨hn, L ++ [q], va_up g q y, by rw [← va_pl_push hq]; exact hP, by rw [← va_pl_push hq]; exact hD, fun b z hz => ?_⟩
  by_cases hb : b = q
  · subst hb
    rw [va_up_self] at hz ⊢
    exact ⟨List.mem_append_right _ List.mem_cons_self, Option.some.inj hz⟩
  · rw [va_up_ne _ _ hb] at hz ⊢
    exact ⟨List.mem_append_left _ (h3 b z hz).1, (h3 b z hz).2⟩
/-- what the tables say beside the good words -/
abbrev xR_place : MethodName := ⟨RX5, "place", "(LIndexRanges$Hand;IILIndexRanges$Miss;)J"⟩
abbrev xR_fill : MethodName := ⟨RX5, "fill", "(LIndexRanges$Hand;IJ)V"⟩
abbrev xR_singleAt : MethodName := ⟨RX5, "singleAt", "(I)LIndexRanges$Single;"⟩
abbrev xR_madeOf : MethodName := ⟨RX5, "madeOf", "()I"⟩
abbrev xS_placeOf : MethodName := ⟨RX7, "placeOf", "(J)J"⟩
abbrev xS_valueAt : MethodName := ⟨RX7, "valueAt", "(J)J"⟩
abbrev xS_liesIn : MethodName := ⟨RX7, "liesIn", "(LIndexRanges$Single;)Z"⟩
def nbL : List Cond := [.methodLinkNest RX8 21 yX3_init RX8, .methodLinkNest RX6 27 yX8_quotient RX8, .methodLinkNest RX1 25 yX8_times RX8, .methodLinkNest RX1 29 yX8_plus RX8,
  .declares xR_place, .declares xR_fill, .declares xR_singleAt, .declares xR_madeOf, .declares xS_placeOf, .declares xS_valueAt, .declares xS_liesIn,
  .castable RX0 RX5, .castable RX1 RX5, .castable RX4 RX5, .castable RX6 RX5, .castable RX6 RX6,
  .declares (Bundle.initS "java/lang/IndexOutOfBoundsException"), .declares (Bundle.initS "java/lang/RuntimeException"), .declares (Bundle.initS "java/lang/Exception"), .declares (Bundle.initS "java/lang/Throwable"),
  .castable "java/lang/ArrayIndexOutOfBoundsException" "java/lang/ArrayIndexOutOfBoundsException", .castable "java/lang/IndexOutOfBoundsException" "java/lang/IndexOutOfBoundsException", .castable "java/lang/NegativeArraySizeException" "java/lang/NegativeArraySizeException", .castable "java/lang/IllegalArgumentException" "java/lang/IllegalArgumentException"]
theorem aoa_spec {A : Array Value} {s : State} {t : FieldType} (h : (Cond.arrayOver (.array t)).before A s = true) :
    ∃ comp c k, s.vm.findClass (FieldType.array t).toString = some comp ∧ (s.vm.classes.findIdx? fun x => match x.kind with | .array component _ => component == comp | _ => false) = some c ∧ s.vm.classes[c]? = some k ∧ k.kind = .array comp (.array t) ∧
      s.vm.findClass ("[" ++ (FieldType.array t).toString) = some c := by
  simp only [Cond.before, Cond.holds, Cond.value, beq_iff_eq] at h
  cases hc : s.vm.findClass (FieldType.array t).toString with
  | none => simp [hc] at h
  | some comp =>
    simp only [hc, Option.bind_some, Option.bind_eq_some_iff, Option.map_eq_some_iff] at h
    obtain ⟨c, hi, k, hk, hb⟩ := h
    obtain ⟨hlt, hp, -⟩ := Array.findIdx?_eq_some_iff_getElem.mp hi
    have hkk : s.vm.classes[c] = k := (Array.getElem?_eq_some_iff.mp hk).2
    rw [hkk] at hp
    cases hkind : k.kind with
    | array component ty =>
      rw [hkind] at hb hp
      simp at hb hp
      exact ⟨comp, c, k, rfl, hi, hk, by rw [hkind, hp, hb.1], hb.2⟩
    | _ => rw [hkind] at hb; simp at hb
theorem va_AOA.moved {t : FieldType} {u U : State} (hvm : u.vm.Alike U.vm) (h : va_AOA t u) : va_AOA t U := by
  obtain ⟨comp, c, k, h1, h2, h3, h4, h5⟩ := aoa_spec h
  obtain ⟨k', hk', he⟩ := hvm.2.2 _ _ h3
  have hi : (U.vm.classes.findIdx? fun (x : Class) => match x.kind with | .array component _ => component == comp | _ => false) = some c := by
    have e1 := va_idx_bare U.vm comp
    have e2 := va_idx_bare u.vm comp
    first | rw [← hvm.bare_eq] at e1 | rw [hvm.bare_eq] at e1
    exact e1.symm.trans (e2.trans h2)
  have hkind : k'.kind = .array comp (.array t) := by rw [he]; exact h4
  have f1 : U.vm.findClass (FieldType.array t).toString = some comp := by rw [hvm.findClass]; exact h1
  have f2 : U.vm.findClass ("[" ++ (FieldType.array t).toString) = some c := by rw [hvm.findClass]; exact h5
  unfold va_AOA Cond.before Cond.holds
  simp only [Cond.value]
  rw [f1, Option.bind_some]
  refine (congrArg (fun o : Option Nat => (o.bind (fun c => (U.vm.classes[c]?).map fun (k : Class) => match k.kind with | .array _ ty => decide (ty = FieldType.array t) && decide (U.vm.findClass ("[" ++ (FieldType.array t).toString) = some c) | _ => false) == some true)) hi).trans ?_
  simp [hk', hkind, f2]
def strL : List (Nat × String) := [(106, "the hand has no such number"), (126, "the hand holds no element of the range"), (133, "the range has no element of this index"), (143, "the range has no such place"), (163, "the size of the range is many"), (170, "the size of the range is above 400"), (184, "the hand holds no element of the array's range")]
def XB (B : Nat) (U : State) : Prop := vx_Zq Bundle.tN "UNASSIGNED_STACK" Bundle.steD (fun q => B ≤ q) U U.heap ∧ vx_Zq Bundle.tN "SUPPRESSED_SENTINEL" Bundle.listD (fun q => B ≤ q) U U.heap ∧ (∀ q ∈ strL, ∃ sa, vk_R RX8 q.1 q.2 sa U) ∧ (Cond.castable "java/lang/ArrayIndexOutOfBoundsException" "java/lang/ArrayIndexOutOfBoundsException").before #[] U = true ∧ (Cond.castable "java/lang/IndexOutOfBoundsException" "java/lang/IndexOutOfBoundsException").before #[] U = true ∧ (Cond.castable "java/lang/NegativeArraySizeException" "java/lang/NegativeArraySizeException").before #[] U = true ∧ (Cond.castable "java/lang/IllegalArgumentException" "java/lang/IllegalArgumentException").before #[] U = true ∧ va_Nc "java/lang/IllegalArgumentException" "java/lang/NegativeArraySizeException" U
def NB (B : Nat) (U : State) : Prop := (∀ w ∈ nbL, va_Nw w U) ∧ va_Nc RX4 RX6 U ∧ va_AO RX5 U ∧ va_AOA .int U ∧ XB B U
theorem NB.same {B : Nat} {u U : State} (h : u.vm = U.vm) (hh : u.heap = U.heap) (hN : NB B u) : NB B U := by
  have hA : u.vm.Alike U.vm := by rw [h]; exact Vm.Alike.refl _
  obtain ⟨x1, x2, x3, x4, x5, x6, x7, x8⟩ := hN.2.2.2.2
  refine ⟨fun w hw => va_Nw.same ?_ h (hN.1 w hw), va_Nc.moved hA hN.2.1, va_AO.moved hA hN.2.2.1, va_AOA.moved hA hN.2.2.2.1, by rw [← hh]; exact vx_Zq.moved hA x1, by rw [← hh]; exact vx_Zq.moved hA x2, fun q hq => ?_, va_Nw.same rfl h x4, va_Nw.same rfl h x5, va_Nw.same rfl h x6, va_Nw.same rfl h x7, va_Nc.moved hA x8⟩
  · exact (by decide +kernel : ∀ w ∈ nbL, w.onTables = true) w hw
  · obtain ⟨sa, hs⟩ := x3 q hq
    exact ⟨sa, vk_R.same h.symm hs⟩
theorem NB.warm {B : Nat} {s U : State} (h : s.WarmedH U.vm) (hk : ∀ a : Nat, a < s.heap.size → ¬ B ≤ a → U.heap[a]? = s.heap[a]?) (hN : NB B s) : NB B U := by
  obtain ⟨x1, x2, x3, x4, x5, x6, x7, x8⟩ := hN.2.2.2.2
  refine ⟨?_, va_Nc.moved h.alike hN.2.1, va_AO.moved h.alike hN.2.2.1, va_AOA.moved h.alike hN.2.2.2.1, vx_Zq.moved h.alike (vx_Zq.kept x1 hk), vx_Zq.moved h.alike (vx_Zq.kept x2 hk), fun q hq => ?_, va_Nw.warmC h x4, va_Nw.warmC h x5, va_Nw.warmC h x6, va_Nw.warmC h x7, va_Nc.moved h.alike x8⟩
  · have h1 := hN.1
    simp only [nbL, List.forall_mem_cons] at h1 ⊢
    obtain ⟨a1, a2, a3, a4, b1, b2, b3, b4, b5, b6, b7, c1, c2, c3, c4, c5, d1, d2, d3, d4, e1, e2, e3, e4, _⟩ := h1
    exact ⟨a1.warmM h, a2.warmM h, a3.warmM h, a4.warmM h, b1.warmD h, b2.warmD h, b3.warmD h, b4.warmD h, b5.warmD h, b6.warmD h, b7.warmD h, c1.warmC h, c2.warmC h, c3.warmC h, c4.warmC h, c5.warmC h, d1.warmD h, d2.warmD h, d3.warmD h, d4.warmD h, e1.warmC h, e2.warmC h, e3.warmC h, e4.warmC h, fun _ hx => nomatch hx⟩
  · obtain ⟨sa, hs⟩ := x3 q hq
    exact ⟨sa, vk_R.warm h hs⟩
def Pre (D : va_G) (B : Nat) (K : Nat → ClassId) (f : St) (U : State) : Prop := hw D B f U.heap ∧ va_K D classes (tyL K) U ∧ B ≤ U.heap.size ∧ NB B U
theorem pre_blind {D : va_G} {B : Nat} {K : Nat → ClassId} {f : St} {av : List Value} : FrameBlind (va_Pc av (Pre D B K f)) := fun _ U g mk q => by
  obtain ⟨q0, q1, q2, q3, q4⟩ := q
  exact ⟨q0, q1, va_K.moved (u := U) (U := U.calling g mk _) (Vm.Alike.refl U.vm) q2, q3, NB.same (u := U) rfl rfl q4⟩
/-- rooms by levels -/
def RM (n c s : Nat) : Room := { frames := n, cells := c, slots := s, locals := 40 * n }
def RN (R : Room) (n : Nat) : Prop := n ≤ R.frames ∧ 40 * n ≤ R.locals
theorem rn_le {n N c s : Nat} (h : n ≤ N) : RN (RM N c s) n := ⟨h, Nat.mul_le_mul_left 40 h⟩
abbrev ws_ (y : MethodName) (cc : ByteArray) (n : Nat) (ret : Option FieldType) : List Cond := Cond.code y cc n ret :: GT
theorem gt_in {w : Cond} (h : w ∈ GT) : w ∈ GT ∧ ((w.onTables && w.keeps) = true ∨ ∃ ty, w = .arrayClass ty) := ⟨h, good_of_word (gt_good w h)⟩
theorem gt_ws {y : MethodName} {cc : ByteArray} {n : Nat} {ret : Option FieldType} (h : Cond.code y cc n ret ∈ GT) : GoodIn GT (ws_ y cc n ret) := fun w hw => (List.mem_cons.mp hw).elim (fun e => by rw [e]; exact gt_in h) gt_in
def Cx (p : Program) (s : State) (m : MethodId) (args : Array Value) (c : Code) (cc : ByteArray) (nL : Nat) (own : String) (D : va_G) (B : Nat) (K : Nat → ClassId) : Prop :=
  p.tables.exec = Jvm.exec ∧ c.code = cc ∧ c.maxLocals = nL ∧ s.vm.findClass own = some m.cls ∧ (∀ w ∈ GT, w.before args s = true) ∧ va_K D classes (tyL K) s ∧ B ≤ s.heap.size ∧ NB B s
def V (p : Program) (l : Launch) (e : Env) (R : Room) (s : State) (m : MethodId) (args : Array Value) (below : List Frame) (meth : Method) (c : Code) (D : va_G) (B nL : Nat) (Q : State → Prop) (ce sl : Nat) (f : St) (lv : Lv) (pc : Nat) (st : List Value) : Prop :=
  ∀ (H : Heap) (locs : List Loc) (ls : Array Slot), hw D B f H → va_S (fun q => B ≤ q) s.heap H locs → lh ls nL lv → W p l e R s m args below meth c H locs ce sl Q (F0 m pc ls st)
section VL
variable {p : Program} {l : Launch} {e : Env} {R : Room} {s : State} {m : MethodId} {args : Array Value} {below : List Frame} {meth : Method} {c : Code} {D : va_G} {B nL : Nat} {Q : State → Prop} {ce sl : Nat} {f : St} {lv : Lv} {pc : Nat} {st : List Value} {cc : ByteArray} {own : String} {K : Nat → ClassId}

theorem v_iconst (C : Cx p s m args c cc nL own D B K) {n : Int} {v : Int32} (hd : decode cc pc = .ok (.iconst n, 1)) (hv : Int32.ofInt n = v) (k : V p l e R s m args below meth c D B nL Q ce sl f lv (pc + 1) (.int v :: st)) : V p l e R s m args below meth c D B nL Q ce sl f lv pc st := fun H locs ls h hS hl => lv_iconst C.1 C.2.1 hd hv (k H locs ls h hS hl)
theorem v_bipush (C : Cx p s m args c cc nL own D B K) {n : Int} {v : Int32} (hd : decode cc pc = .ok (.bipush n, 2)) (hv : (Int8.ofInt n).toInt32 = v) (k : V p l e R s m args below meth c D B nL Q ce sl f lv (pc + 2) (.int v :: st)) : V p l e R s m args below meth c D B nL Q ce sl f lv pc st := fun H locs ls h hS hl => lv_bipush C.1 C.2.1 hd hv (k H locs ls h hS hl)
theorem v_sipush (C : Cx p s m args c cc nL own D B K) {n : Int} {v : Int32} (hd : decode cc pc = .ok (.sipush n, 3)) (hv : (Int16.ofInt n).toInt32 = v) (k : V p l e R s m args below meth c D B nL Q ce sl f lv (pc + 3) (.int v :: st)) : V p l e R s m args below meth c D B nL Q ce sl f lv pc st := fun H locs ls h hS hl => lv_sipush C.1 C.2.1 hd hv (k H locs ls h hS hl)
theorem v_lconst (C : Cx p s m args c cc nL own D B K) {n : Fin 2} {v : Int64} (hd : decode cc pc = .ok (.lconst n, 1)) (hv : Int64.ofNat (n : Nat) = v) (k : V p l e R s m args below meth c D B nL Q ce sl f lv (pc + 1) (.long v :: st)) : V p l e R s m args below meth c D B nL Q ce sl f lv pc st := fun H locs ls h hS hl => lv_lconst C.1 C.2.1 hd hv (k H locs ls h hS hl)
theorem v_iload_n (C : Cx p s m args c cc nL own D B K) {k9 : Fin 4} {i : Nat} {x : Int32} (hd : decode cc pc = .ok (.iload_n k9, 1)) (hi : (k9 : Nat) = i) (hx : lk lv i = some (.int x)) (k : V p l e R s m args below meth c D B nL Q ce sl f lv (pc + 1) (.int x :: st)) : V p l e R s m args below meth c D B nL Q ce sl f lv pc st := fun H locs ls h hS hl => lv_iload_n C.1 C.2.1 hd hi (hl.2.2 _ _ hx) (k H locs ls h hS hl)
theorem v_iload (C : Cx p s m args c cc nL own D B K) {i : Nat} {x : Int32} (hd : decode cc pc = .ok (.iload i, 2)) (hx : lk lv i = some (.int x)) (k : V p l e R s m args below meth c D B nL Q ce sl f lv (pc + 2) (.int x :: st)) : V p l e R s m args below meth c D B nL Q ce sl f lv pc st := fun H locs ls h hS hl => lv_iload C.1 C.2.1 hd (hl.2.2 _ _ hx) (k H locs ls h hS hl)
theorem v_lload_n (C : Cx p s m args c cc nL own D B K) {k9 : Fin 4} {i : Nat} {x : Int64} (hd : decode cc pc = .ok (.lload_n k9, 1)) (hi : (k9 : Nat) = i) (hx : lk lv i = some (.long x)) (k : V p l e R s m args below meth c D B nL Q ce sl f lv (pc + 1) (.long x :: st)) : V p l e R s m args below meth c D B nL Q ce sl f lv pc st := fun H locs ls h hS hl => lv_lload_n C.1 C.2.1 hd hi (hl.2.2 _ _ hx) (k H locs ls h hS hl)
theorem v_lload (C : Cx p s m args c cc nL own D B K) {i : Nat} {x : Int64} (hd : decode cc pc = .ok (.lload i, 2)) (hx : lk lv i = some (.long x)) (k : V p l e R s m args below meth c D B nL Q ce sl f lv (pc + 2) (.long x :: st)) : V p l e R s m args below meth c D B nL Q ce sl f lv pc st := fun H locs ls h hS hl => lv_lload C.1 C.2.1 hd (hl.2.2 _ _ hx) (k H locs ls h hS hl)
theorem v_aload_n (C : Cx p s m args c cc nL own D B K) {k9 : Fin 4} {i : Nat} {x : Nat} (hd : decode cc pc = .ok (.aload_n k9, 1)) (hi : (k9 : Nat) = i) (hx : lk lv i = some (.ref x)) (k : V p l e R s m args below meth c D B nL Q ce sl f lv (pc + 1) (.ref x :: st)) : V p l e R s m args below meth c D B nL Q ce sl f lv pc st := fun H locs ls h hS hl => lv_aload_n C.1 C.2.1 hd hi (hl.2.2 _ _ hx) (k H locs ls h hS hl)
theorem v_aload (C : Cx p s m args c cc nL own D B K) {i : Nat} {x : Nat} (hd : decode cc pc = .ok (.aload i, 2)) (hx : lk lv i = some (.ref x)) (k : V p l e R s m args below meth c D B nL Q ce sl f lv (pc + 2) (.ref x :: st)) : V p l e R s m args below meth c D B nL Q ce sl f lv pc st := fun H locs ls h hS hl => lv_aload C.1 C.2.1 hd (hl.2.2 _ _ hx) (k H locs ls h hS hl)
theorem v_aload_nN (C : Cx p s m args c cc nL own D B K) {k9 : Fin 4} {i : Nat} (hd : decode cc pc = .ok (.aload_n k9, 1)) (hi : (k9 : Nat) = i) (hx : lk lv i = some .null) (k : V p l e R s m args below meth c D B nL Q ce sl f lv (pc + 1) (.null :: st)) : V p l e R s m args below meth c D B nL Q ce sl f lv pc st := fun H locs ls h hS hl => lv_aload_nN C.1 C.2.1 hd hi (hl.2.2 _ _ hx) (k H locs ls h hS hl)
theorem v_aloadN (C : Cx p s m args c cc nL own D B K) {i : Nat} (hd : decode cc pc = .ok (.aload i, 2)) (hx : lk lv i = some .null) (k : V p l e R s m args below meth c D B nL Q ce sl f lv (pc + 2) (.null :: st)) : V p l e R s m args below meth c D B nL Q ce sl f lv pc st := fun H locs ls h hS hl => lv_aloadN C.1 C.2.1 hd (hl.2.2 _ _ hx) (k H locs ls h hS hl)
theorem v_iadd (C : Cx p s m args c cc nL own D B K) {x y : Int32} (hd : decode cc pc = .ok (.iadd, 1))  (k : V p l e R s m args below meth c D B nL Q ce sl f lv (pc + 1) (.int (x + y) :: st)) : V p l e R s m args below meth c D B nL Q ce sl f lv pc (.int y :: .int x :: st) := fun H locs ls h hS hl => lv_iadd C.1 C.2.1 hd (k H locs ls h hS hl)
theorem v_isub (C : Cx p s m args c cc nL own D B K) {x y : Int32} (hd : decode cc pc = .ok (.isub, 1))  (k : V p l e R s m args below meth c D B nL Q ce sl f lv (pc + 1) (.int (x - y) :: st)) : V p l e R s m args below meth c D B nL Q ce sl f lv pc (.int y :: .int x :: st) := fun H locs ls h hS hl => lv_isub C.1 C.2.1 hd (k H locs ls h hS hl)
theorem v_imul (C : Cx p s m args c cc nL own D B K) {x y : Int32} (hd : decode cc pc = .ok (.imul, 1))  (k : V p l e R s m args below meth c D B nL Q ce sl f lv (pc + 1) (.int (x * y) :: st)) : V p l e R s m args below meth c D B nL Q ce sl f lv pc (.int y :: .int x :: st) := fun H locs ls h hS hl => lv_imul C.1 C.2.1 hd (k H locs ls h hS hl)
theorem v_iand (C : Cx p s m args c cc nL own D B K) {x y : Int32} (hd : decode cc pc = .ok (.iand, 1))  (k : V p l e R s m args below meth c D B nL Q ce sl f lv (pc + 1) (.int (x &&& y) :: st)) : V p l e R s m args below meth c D B nL Q ce sl f lv pc (.int y :: .int x :: st) := fun H locs ls h hS hl => lv_iand C.1 C.2.1 hd (k H locs ls h hS hl)
theorem v_ladd (C : Cx p s m args c cc nL own D B K) {x y : Int64} (hd : decode cc pc = .ok (.ladd, 1))  (k : V p l e R s m args below meth c D B nL Q ce sl f lv (pc + 1) (.long (x + y) :: st)) : V p l e R s m args below meth c D B nL Q ce sl f lv pc (.long y :: .long x :: st) := fun H locs ls h hS hl => lv_ladd C.1 C.2.1 hd (k H locs ls h hS hl)
theorem v_lsub (C : Cx p s m args c cc nL own D B K) {x y : Int64} (hd : decode cc pc = .ok (.lsub, 1))  (k : V p l e R s m args below meth c D B nL Q ce sl f lv (pc + 1) (.long (x - y) :: st)) : V p l e R s m args below meth c D B nL Q ce sl f lv pc (.long y :: .long x :: st) := fun H locs ls h hS hl => lv_lsub C.1 C.2.1 hd (k H locs ls h hS hl)
theorem v_lmul (C : Cx p s m args c cc nL own D B K) {x y : Int64} (hd : decode cc pc = .ok (.lmul, 1))  (k : V p l e R s m args below meth c D B nL Q ce sl f lv (pc + 1) (.long (x * y) :: st)) : V p l e R s m args below meth c D B nL Q ce sl f lv pc (.long y :: .long x :: st) := fun H locs ls h hS hl => lv_lmul C.1 C.2.1 hd (k H locs ls h hS hl)
theorem v_land (C : Cx p s m args c cc nL own D B K) {x y : Int64} (hd : decode cc pc = .ok (.land, 1))  (k : V p l e R s m args below meth c D B nL Q ce sl f lv (pc + 1) (.long (x &&& y) :: st)) : V p l e R s m args below meth c D B nL Q ce sl f lv pc (.long y :: .long x :: st) := fun H locs ls h hS hl => lv_land C.1 C.2.1 hd (k H locs ls h hS hl)
theorem v_lor (C : Cx p s m args c cc nL own D B K) {x y : Int64} (hd : decode cc pc = .ok (.lor, 1))  (k : V p l e R s m args below meth c D B nL Q ce sl f lv (pc + 1) (.long (x ||| y) :: st)) : V p l e R s m args below meth c D B nL Q ce sl f lv pc (.long y :: .long x :: st) := fun H locs ls h hS hl => lv_lor C.1 C.2.1 hd (k H locs ls h hS hl)
theorem v_ineg (C : Cx p s m args c cc nL own D B K) {x : Int32} (hd : decode cc pc = .ok (.ineg, 1))  (k : V p l e R s m args below meth c D B nL Q ce sl f lv (pc + 1) (.int (-x) :: st)) : V p l e R s m args below meth c D B nL Q ce sl f lv pc (.int x :: st) := fun H locs ls h hS hl => lv_ineg C.1 C.2.1 hd (k H locs ls h hS hl)
theorem v_lneg (C : Cx p s m args c cc nL own D B K) {x : Int64} (hd : decode cc pc = .ok (.lneg, 1))  (k : V p l e R s m args below meth c D B nL Q ce sl f lv (pc + 1) (.long (-x) :: st)) : V p l e R s m args below meth c D B nL Q ce sl f lv pc (.long x :: st) := fun H locs ls h hS hl => lv_lneg C.1 C.2.1 hd (k H locs ls h hS hl)
theorem v_irem (C : Cx p s m args c cc nL own D B K) {x y : Int32} (hd : decode cc pc = .ok (.irem, 1)) (hne : ¬ y = 0) (k : V p l e R s m args below meth c D B nL Q ce sl f lv (pc + 1) (.int (x - x / y * y) :: st)) : V p l e R s m args below meth c D B nL Q ce sl f lv pc (.int y :: .int x :: st) := fun H locs ls h hS hl => lv_irem C.1 C.2.1 hd hne (k H locs ls h hS hl)
theorem v_ldiv (C : Cx p s m args c cc nL own D B K) {x y : Int64} (hd : decode cc pc = .ok (.ldiv, 1)) (hne : ¬ y = 0) (k : V p l e R s m args below meth c D B nL Q ce sl f lv (pc + 1) (.long (x / y) :: st)) : V p l e R s m args below meth c D B nL Q ce sl f lv pc (.long y :: .long x :: st) := fun H locs ls h hS hl => lv_ldiv C.1 C.2.1 hd hne (k H locs ls h hS hl)
theorem v_lrem (C : Cx p s m args c cc nL own D B K) {x y : Int64} (hd : decode cc pc = .ok (.lrem, 1)) (hne : ¬ y = 0) (k : V p l e R s m args below meth c D B nL Q ce sl f lv (pc + 1) (.long (x - x / y * y) :: st)) : V p l e R s m args below meth c D B nL Q ce sl f lv pc (.long y :: .long x :: st) := fun H locs ls h hS hl => lv_lrem C.1 C.2.1 hd hne (k H locs ls h hS hl)
theorem v_lshl (C : Cx p s m args c cc nL own D B K) {x : Int64} {y : Int32} (hd : decode cc pc = .ok (.lshl, 1))  (k : V p l e R s m args below meth c D B nL Q ce sl f lv (pc + 1) (.long (x <<< (y.toInt64 &&& 63)) :: st)) : V p l e R s m args below meth c D B nL Q ce sl f lv pc (.int y :: .long x :: st) := fun H locs ls h hS hl => lv_lshl C.1 C.2.1 hd rfl (k H locs ls h hS hl)
theorem v_lushr (C : Cx p s m args c cc nL own D B K) {x : Int64} {y : Int32} (hd : decode cc pc = .ok (.lushr, 1))  (k : V p l e R s m args below meth c D B nL Q ce sl f lv (pc + 1) (.long (x.toUInt64 >>> (y.toInt64.toUInt64 &&& Int64.toUInt64 63)).toInt64 :: st)) : V p l e R s m args below meth c D B nL Q ce sl f lv pc (.int y :: .long x :: st) := fun H locs ls h hS hl => lv_lushr C.1 C.2.1 hd rfl (k H locs ls h hS hl)
theorem v_i2l (C : Cx p s m args c cc nL own D B K) {x : Int32} (hd : decode cc pc = .ok (.i2l, 1))  (k : V p l e R s m args below meth c D B nL Q ce sl f lv (pc + 1) (.long x.toInt64 :: st)) : V p l e R s m args below meth c D B nL Q ce sl f lv pc (.int x :: st) := fun H locs ls h hS hl => lv_i2l C.1 C.2.1 hd rfl (k H locs ls h hS hl)
theorem v_l2i (C : Cx p s m args c cc nL own D B K) {x : Int64} (hd : decode cc pc = .ok (.l2i, 1))  (k : V p l e R s m args below meth c D B nL Q ce sl f lv (pc + 1) (.int x.toInt32 :: st)) : V p l e R s m args below meth c D B nL Q ce sl f lv pc (.long x :: st) := fun H locs ls h hS hl => lv_l2i C.1 C.2.1 hd rfl (k H locs ls h hS hl)
theorem v_lcmp (C : Cx p s m args c cc nL own D B K) {x y : Int64} (hd : decode cc pc = .ok (.lcmp, 1))  (k : V p l e R s m args below meth c D B nL Q ce sl f lv (pc + 1) (.int (lg_cmp x y) :: st)) : V p l e R s m args below meth c D B nL Q ce sl f lv pc (.long y :: .long x :: st) := fun H locs ls h hS hl => W.lcmp C.1 C.2.1 hd (k H locs ls h hS hl)
theorem v_dup (C : Cx p s m args c cc nL own D B K) {va : Value} (hd : decode cc pc = .ok (.dup, 1)) (hva : va.category = 1) (k : V p l e R s m args below meth c D B nL Q ce sl f lv (pc + 1) (va :: va :: st)) : V p l e R s m args below meth c D B nL Q ce sl f lv pc (va :: st) := fun H locs ls h hS hl => lv_dup C.1 C.2.1 hd hva (k H locs ls h hS hl)
theorem v_pop (C : Cx p s m args c cc nL own D B K) {va : Value} (hd : decode cc pc = .ok (.pop, 1)) (hva : va.category = 1) (k : V p l e R s m args below meth c D B nL Q ce sl f lv (pc + 1) st) : V p l e R s m args below meth c D B nL Q ce sl f lv pc (va :: st) := fun H locs ls h hS hl => lv_pop C.1 C.2.1 hd hva (k H locs ls h hS hl)
theorem v_dup2_11 (C : Cx p s m args c cc nL own D B K) {va vb : Value} (hd : decode cc pc = .ok (.dup2, 1)) (hva : va.category = 1) (hvb : vb.category = 1) (k : V p l e R s m args below meth c D B nL Q ce sl f lv (pc + 1) (va :: vb :: va :: vb :: st)) : V p l e R s m args below meth c D B nL Q ce sl f lv pc (va :: vb :: st) := fun H locs ls h hS hl => lv_dup2_11 C.1 C.2.1 hd hva hvb (k H locs ls h hS hl)
theorem v_dup2_2 (C : Cx p s m args c cc nL own D B K) {va : Value} (hd : decode cc pc = .ok (.dup2, 1)) (hva : va.category = 2) (k : V p l e R s m args below meth c D B nL Q ce sl f lv (pc + 1) (va :: va :: st)) : V p l e R s m args below meth c D B nL Q ce sl f lv pc (va :: st) := fun H locs ls h hS hl => lv_dup2_2 C.1 C.2.1 hd hva (k H locs ls h hS hl)
theorem v_dup_x1 (C : Cx p s m args c cc nL own D B K) {va vb : Value} (hd : decode cc pc = .ok (.dup_x1, 1)) (hva : va.category = 1) (hvb : vb.category = 1) (k : V p l e R s m args below meth c D B nL Q ce sl f lv (pc + 1) (va :: vb :: va :: st)) : V p l e R s m args below meth c D B nL Q ce sl f lv pc (va :: vb :: st) := fun H locs ls h hS hl => lv_dup_x1 C.1 C.2.1 hd hva hvb (k H locs ls h hS hl)
theorem v_null (C : Cx p s m args c cc nL own D B K)  (hd : decode cc pc = .ok (.aconst_null, 1))  (k : V p l e R s m args below meth c D B nL Q ce sl f lv (pc + 1) (.null :: st)) : V p l e R s m args below meth c D B nL Q ce sl f lv pc st := fun H locs ls h hS hl => lv_null C.1 C.2.1 hd (k H locs ls h hS hl)
theorem v_ifnull (C : Cx p s m args c cc nL own D B K) {x : Nat} {off : Int} (hd : decode cc pc = .ok (.ifnull off, 3))  (k : V p l e R s m args below meth c D B nL Q ce sl f lv (pc + 3) st) : V p l e R s m args below meth c D B nL Q ce sl f lv pc (.ref x :: st) := fun H locs ls h hS hl => lv_ifnull C.1 C.2.1 hd (k H locs ls h hS hl)
theorem v_ifnonnullN (C : Cx p s m args c cc nL own D B K) {off : Int} (hd : decode cc pc = .ok (.ifnonnull off, 3))  (k : V p l e R s m args below meth c D B nL Q ce sl f lv (pc + 3) st) : V p l e R s m args below meth c D B nL Q ce sl f lv pc (.null :: st) := fun H locs ls h hS hl => lv_ifnonnullN C.1 C.2.1 hd (k H locs ls h hS hl)
theorem v_goto (C : Cx p s m args c cc nL own D B K) {off : Int} {tgt : Nat} (hd : decode cc pc = .ok (.goto off, 3)) (ht : (pc : Int) + off = (tgt : Int)) (k : V p l e R s m args below meth c D B nL Q ce sl f lv tgt st) : V p l e R s m args below meth c D B nL Q ce sl f lv pc st := fun H locs ls h hS hl => lv_goto C.1 C.2.1 hd ht (k H locs ls h hS hl)
theorem v_ifnullN (C : Cx p s m args c cc nL own D B K) {off : Int} {tgt : Nat} (hd : decode cc pc = .ok (.ifnull off, 3)) (ht : (pc : Int) + off = (tgt : Int)) (k : V p l e R s m args below meth c D B nL Q ce sl f lv tgt st) : V p l e R s m args below meth c D B nL Q ce sl f lv pc (.null :: st) := fun H locs ls h hS hl => lv_ifnullN C.1 C.2.1 hd ht (k H locs ls h hS hl)
theorem v_ifnonnull (C : Cx p s m args c cc nL own D B K) {x : Nat} {off : Int} {tgt : Nat} (hd : decode cc pc = .ok (.ifnonnull off, 3)) (ht : (pc : Int) + off = (tgt : Int)) (k : V p l e R s m args below meth c D B nL Q ce sl f lv tgt st) : V p l e R s m args below meth c D B nL Q ce sl f lv pc (.ref x :: st) := fun H locs ls h hS hl => lv_ifnonnull C.1 C.2.1 hd ht (k H locs ls h hS hl)
theorem v_if_eq (C : Cx p s m args c cc nL own D B K) {x : Int32} {off : Int} {tgt : Nat} (hd : decode cc pc = .ok (.ifCond .eq off, 3)) (ht : (pc : Int) + off = (tgt : Int)) (kt : x = 0 → V p l e R s m args below meth c D B nL Q ce sl f lv tgt st) (kf : ¬ x = 0 → V p l e R s m args below meth c D B nL Q ce sl f lv (pc + 3) st) : V p l e R s m args below meth c D B nL Q ce sl f lv pc (.int x :: st) := fun H locs ls h hS hl => lv_if_eq C.1 C.2.1 hd ht (fun q => kt q H locs ls h hS hl) (fun q => kf q H locs ls h hS hl)
theorem v_icmp_eq (C : Cx p s m args c cc nL own D B K) {x y : Int32} {off : Int} {tgt : Nat} (hd : decode cc pc = .ok (.if_icmp .eq off, 3)) (ht : (pc : Int) + off = (tgt : Int)) (kt : x = y → V p l e R s m args below meth c D B nL Q ce sl f lv tgt st) (kf : ¬ x = y → V p l e R s m args below meth c D B nL Q ce sl f lv (pc + 3) st) : V p l e R s m args below meth c D B nL Q ce sl f lv pc (.int y :: .int x :: st) := fun H locs ls h hS hl => lv_icmp_eq C.1 C.2.1 hd ht (fun q => kt q H locs ls h hS hl) (fun q => kf q H locs ls h hS hl)
theorem v_lc_eq (C : Cx p s m args c cc nL own D B K) {x y : Int64} {off : Int} {tgt : Nat} (hd : decode cc pc = .ok (.lcmp, 1)) (hd2 : decode cc (pc + 1) = .ok (.ifCond .eq off, 3)) (ht : ((pc + 1 : Nat) : Int) + off = (tgt : Int)) (kt : x = y → V p l e R s m args below meth c D B nL Q ce sl f lv tgt st) (kf : ¬ x = y → V p l e R s m args below meth c D B nL Q ce sl f lv (pc + 1 + 3) st) : V p l e R s m args below meth c D B nL Q ce sl f lv pc (.long y :: .long x :: st) := v_lcmp C hd (v_if_eq C hd2 ht (fun q => kt ((lg_cmp_eq x y).mp q)) (fun q => kf (fun z => q ((lg_cmp_eq x y).mpr z))))
theorem v_if_ne (C : Cx p s m args c cc nL own D B K) {x : Int32} {off : Int} {tgt : Nat} (hd : decode cc pc = .ok (.ifCond .ne off, 3)) (ht : (pc : Int) + off = (tgt : Int)) (kt : ¬ x = 0 → V p l e R s m args below meth c D B nL Q ce sl f lv tgt st) (kf : x = 0 → V p l e R s m args below meth c D B nL Q ce sl f lv (pc + 3) st) : V p l e R s m args below meth c D B nL Q ce sl f lv pc (.int x :: st) := fun H locs ls h hS hl => lv_if_ne C.1 C.2.1 hd ht (fun q => kt q H locs ls h hS hl) (fun q => kf q H locs ls h hS hl)
theorem v_icmp_ne (C : Cx p s m args c cc nL own D B K) {x y : Int32} {off : Int} {tgt : Nat} (hd : decode cc pc = .ok (.if_icmp .ne off, 3)) (ht : (pc : Int) + off = (tgt : Int)) (kt : ¬ x = y → V p l e R s m args below meth c D B nL Q ce sl f lv tgt st) (kf : x = y → V p l e R s m args below meth c D B nL Q ce sl f lv (pc + 3) st) : V p l e R s m args below meth c D B nL Q ce sl f lv pc (.int y :: .int x :: st) := fun H locs ls h hS hl => lv_icmp_ne C.1 C.2.1 hd ht (fun q => kt q H locs ls h hS hl) (fun q => kf q H locs ls h hS hl)
theorem v_lc_ne (C : Cx p s m args c cc nL own D B K) {x y : Int64} {off : Int} {tgt : Nat} (hd : decode cc pc = .ok (.lcmp, 1)) (hd2 : decode cc (pc + 1) = .ok (.ifCond .ne off, 3)) (ht : ((pc + 1 : Nat) : Int) + off = (tgt : Int)) (kt : ¬ x = y → V p l e R s m args below meth c D B nL Q ce sl f lv tgt st) (kf : x = y → V p l e R s m args below meth c D B nL Q ce sl f lv (pc + 1 + 3) st) : V p l e R s m args below meth c D B nL Q ce sl f lv pc (.long y :: .long x :: st) := v_lcmp C hd (v_if_ne C hd2 ht (fun q => kt (fun z => q ((lg_cmp_eq x y).mpr z))) (fun q => kf ((lg_cmp_eq x y).mp q)))
theorem v_if_lt (C : Cx p s m args c cc nL own D B K) {x : Int32} {off : Int} {tgt : Nat} (hd : decode cc pc = .ok (.ifCond .lt off, 3)) (ht : (pc : Int) + off = (tgt : Int)) (kt : x < 0 → V p l e R s m args below meth c D B nL Q ce sl f lv tgt st) (kf : ¬ x < 0 → V p l e R s m args below meth c D B nL Q ce sl f lv (pc + 3) st) : V p l e R s m args below meth c D B nL Q ce sl f lv pc (.int x :: st) := fun H locs ls h hS hl => lv_if_lt C.1 C.2.1 hd ht (fun q => kt q H locs ls h hS hl) (fun q => kf q H locs ls h hS hl)
theorem v_icmp_lt (C : Cx p s m args c cc nL own D B K) {x y : Int32} {off : Int} {tgt : Nat} (hd : decode cc pc = .ok (.if_icmp .lt off, 3)) (ht : (pc : Int) + off = (tgt : Int)) (kt : x < y → V p l e R s m args below meth c D B nL Q ce sl f lv tgt st) (kf : ¬ x < y → V p l e R s m args below meth c D B nL Q ce sl f lv (pc + 3) st) : V p l e R s m args below meth c D B nL Q ce sl f lv pc (.int y :: .int x :: st) := fun H locs ls h hS hl => lv_icmp_lt C.1 C.2.1 hd ht (fun q => kt q H locs ls h hS hl) (fun q => kf q H locs ls h hS hl)
theorem v_lc_lt (C : Cx p s m args c cc nL own D B K) {x y : Int64} {off : Int} {tgt : Nat} (hd : decode cc pc = .ok (.lcmp, 1)) (hd2 : decode cc (pc + 1) = .ok (.ifCond .lt off, 3)) (ht : ((pc + 1 : Nat) : Int) + off = (tgt : Int)) (kt : x < y → V p l e R s m args below meth c D B nL Q ce sl f lv tgt st) (kf : ¬ x < y → V p l e R s m args below meth c D B nL Q ce sl f lv (pc + 1 + 3) st) : V p l e R s m args below meth c D B nL Q ce sl f lv pc (.long y :: .long x :: st) := v_lcmp C hd (v_if_lt C hd2 ht (fun q => kt ((lg_cmp_lt x y).mp q)) (fun q => kf (fun z => q ((lg_cmp_lt x y).mpr z))))
theorem v_if_ge (C : Cx p s m args c cc nL own D B K) {x : Int32} {off : Int} {tgt : Nat} (hd : decode cc pc = .ok (.ifCond .ge off, 3)) (ht : (pc : Int) + off = (tgt : Int)) (kt : 0 ≤ x → V p l e R s m args below meth c D B nL Q ce sl f lv tgt st) (kf : ¬ 0 ≤ x → V p l e R s m args below meth c D B nL Q ce sl f lv (pc + 3) st) : V p l e R s m args below meth c D B nL Q ce sl f lv pc (.int x :: st) := fun H locs ls h hS hl => lv_if_ge C.1 C.2.1 hd ht (fun q => kt q H locs ls h hS hl) (fun q => kf q H locs ls h hS hl)
theorem v_icmp_ge (C : Cx p s m args c cc nL own D B K) {x y : Int32} {off : Int} {tgt : Nat} (hd : decode cc pc = .ok (.if_icmp .ge off, 3)) (ht : (pc : Int) + off = (tgt : Int)) (kt : y ≤ x → V p l e R s m args below meth c D B nL Q ce sl f lv tgt st) (kf : ¬ y ≤ x → V p l e R s m args below meth c D B nL Q ce sl f lv (pc + 3) st) : V p l e R s m args below meth c D B nL Q ce sl f lv pc (.int y :: .int x :: st) := fun H locs ls h hS hl => lv_icmp_ge C.1 C.2.1 hd ht (fun q => kt q H locs ls h hS hl) (fun q => kf q H locs ls h hS hl)
theorem v_lc_ge (C : Cx p s m args c cc nL own D B K) {x y : Int64} {off : Int} {tgt : Nat} (hd : decode cc pc = .ok (.lcmp, 1)) (hd2 : decode cc (pc + 1) = .ok (.ifCond .ge off, 3)) (ht : ((pc + 1 : Nat) : Int) + off = (tgt : Int)) (kt : y ≤ x → V p l e R s m args below meth c D B nL Q ce sl f lv tgt st) (kf : ¬ y ≤ x → V p l e R s m args below meth c D B nL Q ce sl f lv (pc + 1 + 3) st) : V p l e R s m args below meth c D B nL Q ce sl f lv pc (.long y :: .long x :: st) := v_lcmp C hd (v_if_ge C hd2 ht (fun q => kt ((lg_cmp_ge x y).mp q)) (fun q => kf (fun z => q ((lg_cmp_ge x y).mpr z))))
theorem v_if_gt (C : Cx p s m args c cc nL own D B K) {x : Int32} {off : Int} {tgt : Nat} (hd : decode cc pc = .ok (.ifCond .gt off, 3)) (ht : (pc : Int) + off = (tgt : Int)) (kt : 0 < x → V p l e R s m args below meth c D B nL Q ce sl f lv tgt st) (kf : ¬ 0 < x → V p l e R s m args below meth c D B nL Q ce sl f lv (pc + 3) st) : V p l e R s m args below meth c D B nL Q ce sl f lv pc (.int x :: st) := fun H locs ls h hS hl => lv_if_gt C.1 C.2.1 hd ht (fun q => kt q H locs ls h hS hl) (fun q => kf q H locs ls h hS hl)
theorem v_icmp_gt (C : Cx p s m args c cc nL own D B K) {x y : Int32} {off : Int} {tgt : Nat} (hd : decode cc pc = .ok (.if_icmp .gt off, 3)) (ht : (pc : Int) + off = (tgt : Int)) (kt : y < x → V p l e R s m args below meth c D B nL Q ce sl f lv tgt st) (kf : ¬ y < x → V p l e R s m args below meth c D B nL Q ce sl f lv (pc + 3) st) : V p l e R s m args below meth c D B nL Q ce sl f lv pc (.int y :: .int x :: st) := fun H locs ls h hS hl => lv_icmp_gt C.1 C.2.1 hd ht (fun q => kt q H locs ls h hS hl) (fun q => kf q H locs ls h hS hl)
theorem v_lc_gt (C : Cx p s m args c cc nL own D B K) {x y : Int64} {off : Int} {tgt : Nat} (hd : decode cc pc = .ok (.lcmp, 1)) (hd2 : decode cc (pc + 1) = .ok (.ifCond .gt off, 3)) (ht : ((pc + 1 : Nat) : Int) + off = (tgt : Int)) (kt : y < x → V p l e R s m args below meth c D B nL Q ce sl f lv tgt st) (kf : ¬ y < x → V p l e R s m args below meth c D B nL Q ce sl f lv (pc + 1 + 3) st) : V p l e R s m args below meth c D B nL Q ce sl f lv pc (.long y :: .long x :: st) := v_lcmp C hd (v_if_gt C hd2 ht (fun q => kt ((lg_cmp_gt x y).mp q)) (fun q => kf (fun z => q ((lg_cmp_gt x y).mpr z))))
theorem v_if_le (C : Cx p s m args c cc nL own D B K) {x : Int32} {off : Int} {tgt : Nat} (hd : decode cc pc = .ok (.ifCond .le off, 3)) (ht : (pc : Int) + off = (tgt : Int)) (kt : x ≤ 0 → V p l e R s m args below meth c D B nL Q ce sl f lv tgt st) (kf : ¬ x ≤ 0 → V p l e R s m args below meth c D B nL Q ce sl f lv (pc + 3) st) : V p l e R s m args below meth c D B nL Q ce sl f lv pc (.int x :: st) := fun H locs ls h hS hl => lv_if_le C.1 C.2.1 hd ht (fun q => kt q H locs ls h hS hl) (fun q => kf q H locs ls h hS hl)
theorem v_icmp_le (C : Cx p s m args c cc nL own D B K) {x y : Int32} {off : Int} {tgt : Nat} (hd : decode cc pc = .ok (.if_icmp .le off, 3)) (ht : (pc : Int) + off = (tgt : Int)) (kt : x ≤ y → V p l e R s m args below meth c D B nL Q ce sl f lv tgt st) (kf : ¬ x ≤ y → V p l e R s m args below meth c D B nL Q ce sl f lv (pc + 3) st) : V p l e R s m args below meth c D B nL Q ce sl f lv pc (.int y :: .int x :: st) := fun H locs ls h hS hl => lv_icmp_le C.1 C.2.1 hd ht (fun q => kt q H locs ls h hS hl) (fun q => kf q H locs ls h hS hl)
theorem v_lc_le (C : Cx p s m args c cc nL own D B K) {x y : Int64} {off : Int} {tgt : Nat} (hd : decode cc pc = .ok (.lcmp, 1)) (hd2 : decode cc (pc + 1) = .ok (.ifCond .le off, 3)) (ht : ((pc + 1 : Nat) : Int) + off = (tgt : Int)) (kt : x ≤ y → V p l e R s m args below meth c D B nL Q ce sl f lv tgt st) (kf : ¬ x ≤ y → V p l e R s m args below meth c D B nL Q ce sl f lv (pc + 1 + 3) st) : V p l e R s m args below meth c D B nL Q ce sl f lv pc (.long y :: .long x :: st) := v_lcmp C hd (v_if_le C hd2 ht (fun q => kt ((lg_cmp_le x y).mp q)) (fun q => kf (fun z => q ((lg_cmp_le x y).mpr z))))
theorem v_istore_n (C : Cx p s m args c cc nL own D B K) {k9 : Fin 4} {i : Nat} {x : Int32} (hd : decode cc pc = .ok (.istore_n k9, 1)) (hi : (k9 : Nat) = i) (hn : i < nL) (hc : nc lv i = true) (k : V p l e R s m args below meth c D B nL Q ce sl f ((i, some (.int x)) :: lv) (pc + 1) st) : V p l e R s m args below meth c D B nL Q ce sl f lv pc (.int x :: st) := fun H locs ls h hS hl => lv_istore_n C.1 C.2.1 hd hi hl.has hn rfl (fun ls2 h2 => k H locs ls2 h hS (lh_put1 hc h2))
theorem v_istore (C : Cx p s m args c cc nL own D B K) {i : Nat} {x : Int32} (hd : decode cc pc = .ok (.istore i, 2)) (hn : i < nL) (hc : nc lv i = true) (k : V p l e R s m args below meth c D B nL Q ce sl f ((i, some (.int x)) :: lv) (pc + 2) st) : V p l e R s m args below meth c D B nL Q ce sl f lv pc (.int x :: st) := fun H locs ls h hS hl => lv_istore C.1 C.2.1 hd hl.has hn rfl (fun ls2 h2 => k H locs ls2 h hS (lh_put1 hc h2))
theorem v_astore_n (C : Cx p s m args c cc nL own D B K) {k9 : Fin 4} {i : Nat} {x : Nat} (hd : decode cc pc = .ok (.astore_n k9, 1)) (hi : (k9 : Nat) = i) (hn : i < nL) (hc : nc lv i = true) (k : V p l e R s m args below meth c D B nL Q ce sl f ((i, some (.ref x)) :: lv) (pc + 1) st) : V p l e R s m args below meth c D B nL Q ce sl f lv pc (.ref x :: st) := fun H locs ls h hS hl => lv_astore_n C.1 C.2.1 hd hi hl.has hn rfl (fun ls2 h2 => k H locs ls2 h hS (lh_put1 hc h2))
theorem v_astore (C : Cx p s m args c cc nL own D B K) {i : Nat} {x : Nat} (hd : decode cc pc = .ok (.astore i, 2)) (hn : i < nL) (hc : nc lv i = true) (k : V p l e R s m args below meth c D B nL Q ce sl f ((i, some (.ref x)) :: lv) (pc + 2) st) : V p l e R s m args below meth c D B nL Q ce sl f lv pc (.ref x :: st) := fun H locs ls h hS hl => lv_astore C.1 C.2.1 hd hl.has hn rfl (fun ls2 h2 => k H locs ls2 h hS (lh_put1 hc h2))
theorem v_lstore_n (C : Cx p s m args c cc nL own D B K) {k9 : Fin 4} {i : Nat} {x : Int64} (hd : decode cc pc = .ok (.lstore_n k9, 1)) (hi : (k9 : Nat) = i) (hn : i + 1 < nL) (hc : nc lv i = true) (k : V p l e R s m args below meth c D B nL Q ce sl f ((i, some (.long x)) :: (i + 1, none) :: lv) (pc + 1) st) : V p l e R s m args below meth c D B nL Q ce sl f lv pc (.long x :: st) := fun H locs ls h hS hl => lv_lstore_n C.1 C.2.1 hd hi hl.has hn rfl (fun ls2 h2 => k H locs ls2 h hS (lh_put2 hc h2))
theorem v_lstore (C : Cx p s m args c cc nL own D B K) {i : Nat} {x : Int64} (hd : decode cc pc = .ok (.lstore i, 2)) (hn : i + 1 < nL) (hc : nc lv i = true) (k : V p l e R s m args below meth c D B nL Q ce sl f ((i, some (.long x)) :: (i + 1, none) :: lv) (pc + 2) st) : V p l e R s m args below meth c D B nL Q ce sl f lv pc (.long x :: st) := fun H locs ls h hS hl => lv_lstore C.1 C.2.1 hd hl.has hn rfl (fun ls2 h2 => k H locs ls2 h hS (lh_put2 hc h2))
theorem v_astore_nN (C : Cx p s m args c cc nL own D B K) {k9 : Fin 4} {i : Nat} (hd : decode cc pc = .ok (.astore_n k9, 1)) (hi : (k9 : Nat) = i) (hn : i < nL) (hc : nc lv i = true) (k : V p l e R s m args below meth c D B nL Q ce sl f ((i, some .null) :: lv) (pc + 1) st) : V p l e R s m args below meth c D B nL Q ce sl f lv pc (.null :: st) := fun H locs ls h hS hl => lv_astore_nN C.1 C.2.1 hd hi hl.has hn rfl (fun ls2 h2 => k H locs ls2 h hS (lh_put1 hc h2))
theorem v_astoreN (C : Cx p s m args c cc nL own D B K) {i : Nat} (hd : decode cc pc = .ok (.astore i, 2)) (hn : i < nL) (hc : nc lv i = true) (k : V p l e R s m args below meth c D B nL Q ce sl f ((i, some .null) :: lv) (pc + 2) st) : V p l e R s m args below meth c D B nL Q ce sl f lv pc (.null :: st) := fun H locs ls h hS hl => lv_astoreN C.1 C.2.1 hd hl.has hn rfl (fun ls2 h2 => k H locs ls2 h hS (lh_put1 hc h2))
theorem lvL_get {lv : Lv} {i : Nat} {v : Value} (h : lk lv i = some v) : ∃ k : Nat, (lvL lv)[k]? = some (i, v) := List.getElem?_of_mem (lvL_mem h)
theorem v_iinc (C : Cx p s m args c cc nL own D B K) {i : Nat} {n : Int} {x y : Int32} (hd : decode cc pc = .ok (.iinc i n, 3)) (hx : lk lv i = some (.int x)) (hy : Int32.ofInt n = y) (hn : i < nL) (hc : nc lv i = true) (k : V p l e R s m args below meth c D B nL Q ce sl f ((i, some (.int (x + y))) :: lv) (pc + 3) st) : V p l e R s m args below meth c D B nL Q ce sl f lv pc st := fun H locs ls h hS hl => by
  obtain ⟨k9, hk9⟩ := lvL_get hx
  exact lv_iinc C.1 C.2.1 hd hl.has hk9 (by rw [hy]) hn rfl (fun ls2 h2 => k H locs ls2 h hS (lh_put1 hc h2))
theorem v_ldc2 (C : Cx p s m args c cc nL own D B K) {index : Nat} {v : Int64} (hd : decode cc pc = .ok (.ldc2_w index, 3)) (hg : Cond.constantLong own index v ∈ GT) (k : V p l e R s m args below meth c D B nL Q ce sl f lv (pc + 3) (.long v :: st)) : V p l e R s m args below meth c D B nL Q ce sl f lv pc st := fun H locs ls h hS hl => lv_ldc2 C.1 C.2.1 C.2.2.2.1 (C.2.2.2.2.1 _ hg) hd (k H locs ls h hS hl)
theorem v_ldc (C : Cx p s m args c cc nL own D B K) {index : Nat} {v : Int32} (hd : decode cc pc = .ok (.ldc index, 2)) (hg : Cond.constant own index v ∈ GT) (k : V p l e R s m args below meth c D B nL Q ce sl f lv (pc + 2) (.int v :: st)) : V p l e R s m args below meth c D B nL Q ce sl f lv pc st := fun H locs ls h hS hl => lv_ldc C.1 C.2.1 C.2.2.2.1 (C.2.2.2.2.1 _ hg) hd (k H locs ls h hS hl)
theorem v_tabIn (C : Cx p s m args c cc nL own D B K) {dflt lo hi : Int} {offs : Array Int} {len : Nat} {x : Int32} {off : Int} {tgt : Nat} (hd : decode cc pc = .ok (.tableswitch dflt lo hi offs, len)) (h1 : ¬ x.toInt < lo) (h2 : ¬ hi < x.toInt) (ho : offs[(x.toInt - lo).toNat]? = some off) (ht : (pc : Int) + off = (tgt : Int)) (k : V p l e R s m args below meth c D B nL Q ce sl f lv tgt st) : V p l e R s m args below meth c D B nL Q ce sl f lv pc (.int x :: st) := fun H locs ls h hS hl => lv_tableIn C.1 C.2.1 hd h1 h2 ho ht (k H locs ls h hS hl)
theorem v_tabOut (C : Cx p s m args c cc nL own D B K) {dflt lo hi : Int} {offs : Array Int} {len : Nat} {x : Int32} {tgt : Nat} (hd : decode cc pc = .ok (.tableswitch dflt lo hi offs, len)) (h1 : x.toInt < lo ∨ hi < x.toInt) (ht : (pc : Int) + dflt = (tgt : Int)) (k : V p l e R s m args below meth c D B nL Q ce sl f lv tgt st) : V p l e R s m args below meth c D B nL Q ce sl f lv pc (.int x :: st) := fun H locs ls h hS hl => lv_tableOut C.1 C.2.1 hd h1 ht (k H locs ls h hS hl)
theorem v_get (C : Cx p s m args c cc nL own D B K) {C9 ref : String} {T : u_T} {N ci index a : Nat} {fs : List Value} {v : Value} (hd : decode cc pc = .ok (.getfield index, 3)) (k9 : Nat) (he : f a = some (.inr (ci, fs))) (hc : classes[ci]? = some (C9, T, N)) (hin : ∀ w ∈ u_ws C9 T N, w ∈ GT) (hk : k9 < N) (hg : Cond.fieldLink own index ref (T k9).2.1 (T k9).2.2.1 ∈ GT) (hsame : ∀ x, s.fieldFound? (T k9).1 (T k9).2.1 (T k9).2.2.1 = some x → s.fieldFound? ref (T k9).2.1 (T k9).2.2.1 = some x) (hv : fs[k9]? = some v) (k : V p l e R s m args below meth c D B nL Q ce sl f lv (pc + 3) (v :: st)) : V p l e R s m args below meth c D B nL Q ce sl f lv pc (.ref a :: st) := fun H locs ls h hS hl => va_get (D := D) (ci := ci) (v := v) (C := C9) (T := T) (N := N) C.1 C.2.1 C.2.2.2.2.1 hin C.2.2.2.1 C.2.2.2.2.2.1 (h.one he) 0 rfl hc k9 hk (C.2.2.2.2.1 _ hg) hsame hv hd (k H locs ls h hS hl)
theorem v_put (C : Cx p s m args c cc nL own D B K) {C9 ref : String} {T : u_T} {N ci index a : Nat} {fs : List Value} {v : Value} {ty : FieldType} (hd : decode cc pc = .ok (.putfield index, 3)) (k9 : Nat) (he : f a = some (.inr (ci, fs))) (hc : classes[ci]? = some (C9, T, N)) (hin : ∀ w ∈ u_ws C9 T N, w ∈ GT) (ty0 : Nat → FieldType) (hty : ∀ k, k < N → parseFieldDescriptor (T k).2.2.1 = some (ty0 k)) (hnm : ∀ a, a < N → ∀ b, b < N → a ≠ b → (T a).2.1 ≠ (T b).2.1) (hk : k9 < N) (hg : Cond.fieldLink own index ref (T k9).2.1 (T k9).2.2.1 ∈ GT) (hsame : ∀ x, s.fieldFound? (T k9).1 (T k9).2.1 (T k9).2.2.1 = some x → s.fieldFound? ref (T k9).2.1 (T k9).2.2.1 = some x) (hfin : (T k9).2.2.2 = false) (hdd : parseFieldDescriptor (T k9).2.2.1 = some ty) (hn : narrow ty v = v) (hfit : fits ty v = true) (hl9 : k9 < fs.length) (k : V p l e R s m args below meth c D B nL Q ce sl (va_up f a (some (.inr (ci, fs.set k9 v)))) lv (pc + 3) st) : V p l e R s m args below meth c D B nL Q ce sl f lv pc (v :: .ref a :: st) := fun H locs ls h hS hl => by
  obtain ⟨ws, q0, hP, hD, hq, hset⟩ := h.place he
  exact va_put (D := D) (ci := ci) (v := v) (ty := ty) (C := C9) (T := T) (N := N) C.1 C.2.1 C.2.2.2.2.1 hin ty0 hty hnm C.2.2.2.1 C.2.2.2.2.2.1 hP hD hS q0 hq hc k9 hk (C.2.2.2.2.1 _ hg) hsame hfin hdd hn hfit hl9 hd (fun H1 locs1 hP1 hD1 hS1 => k H1 locs1 ls (hset _ H1 hP1 hD1) hS1 hl)
theorem v_putF (C : Cx p s m args c cc nL own D B K) {C9 ref : String} {T : u_T} {N ci index a : Nat} {fs : List Value} {v : Value} {ty : FieldType} (hd : decode cc pc = .ok (.putfield index, 3)) (k9 : Nat) (he : f a = some (.inr (ci, fs))) (hc : classes[ci]? = some (C9, T, N)) (hin : ∀ w ∈ u_ws C9 T N, w ∈ GT) (ty0 : Nat → FieldType) (hty : ∀ k, k < N → parseFieldDescriptor (T k).2.2.1 = some (ty0 k)) (hnm : ∀ a, a < N → ∀ b, b < N → a ≠ b → (T a).2.1 ≠ (T b).2.1) (hk : k9 < N) (hg : Cond.fieldLink own index ref (T k9).2.1 (T k9).2.2.1 ∈ GT) (hsame : ∀ x, s.fieldFound? (T k9).1 (T k9).2.1 (T k9).2.2.1 = some x → s.fieldFound? ref (T k9).2.1 (T k9).2.2.1 = some x) (hfin : (T k9).2.2.2 = true) (hin2 : meth.name = "<init>") (hdecl : (T k9).1 = own) (hdd : parseFieldDescriptor (T k9).2.2.1 = some ty) (hn : narrow ty v = v) (hfit : fits ty v = true) (hl9 : k9 < fs.length) (k : V p l e R s m args below meth c D B nL Q ce sl (va_up f a (some (.inr (ci, fs.set k9 v)))) lv (pc + 3) st) : V p l e R s m args below meth c D B nL Q ce sl f lv pc (v :: .ref a :: st) := fun H locs ls h hS hl => by
  obtain ⟨ws, q0, hP, hD, hq, hset⟩ := h.place he
  exact va_putF (D := D) (ci := ci) (v := v) (ty := ty) (C := C9) (T := T) (N := N) C.1 C.2.1 C.2.2.2.2.1 hin ty0 hty hnm C.2.2.2.1 C.2.2.2.2.2.1 hP hD hS q0 hq hc k9 hk (C.2.2.2.2.1 _ hg) hsame hfin hin2 hdecl hdd hn hfit hl9 hd (fun H1 locs1 hP1 hD1 hS1 => k H1 locs1 ls (hset _ H1 hP1 hD1) hS1 hl)
theorem v_iald (C : Cx p s m args c cc nL own D B K) {a n : Nat} {g : Nat → Int32} {i : Int32} (hd : decode cc pc = .ok (.iaload, 1)) (he : f a = some (.inl (K 0, n, .inl g))) (hi : vp_in i n) (k : V p l e R s m args below meth c D B nL Q ce sl f lv (pc + 1) (.int (g i.toNatClampNeg) :: st)) : V p l e R s m args below meth c D B nL Q ce sl f lv pc (.int i :: .ref a :: st) := fun H locs ls h hS hl => va_iald C.1 C.2.1 C.2.2.2.2.2.1 (h.one he) 0 0 rfl rfl hi hd (k H locs ls h hS hl)
theorem v_lald (C : Cx p s m args c cc nL own D B K) {a n : Nat} {g : Nat → Int64} {i : Int32} (hd : decode cc pc = .ok (.laload, 1)) (he : f a = some (.inl (K 1, n, .inr (.inl g)))) (hi : vp_in i n) (k : V p l e R s m args below meth c D B nL Q ce sl f lv (pc + 1) (.long (g i.toNatClampNeg) :: st)) : V p l e R s m args below meth c D B nL Q ce sl f lv pc (.int i :: .ref a :: st) := fun H locs ls h hS hl => va_lald C.1 C.2.1 C.2.2.2.2.2.1 (h.one he) 0 1 rfl rfl hi hd (k H locs ls h hS hl)
theorem v_zald (C : Cx p s m args c cc nL own D B K) {a n : Nat} {g : Nat → Int32} {i : Int32} (hd : decode cc pc = .ok (.baload, 1)) (he : f a = some (.inl (K 2, n, .inl g))) (hi : vp_in i n) (k : V p l e R s m args below meth c D B nL Q ce sl f lv (pc + 1) (.int (g i.toNatClampNeg) :: st)) : V p l e R s m args below meth c D B nL Q ce sl f lv pc (.int i :: .ref a :: st) := fun H locs ls h hS hl => va_zald C.1 C.2.1 C.2.2.2.2.2.1 (h.one he) 0 2 rfl rfl hi hd (k H locs ls h hS hl)
theorem v_iast (C : Cx p s m args c cc nL own D B K) {a n : Nat} {g : Nat → Int32} {i : Int32} {x : Int32} (hd : decode cc pc = .ok (.iastore, 1)) (he : f a = some (.inl (K 0, n, .inl g))) (hi : vp_in i n) (k : V p l e R s m args below meth c D B nL Q ce sl (va_up f a (some (.inl (K 0, n, .inl (upd g i.toNatClampNeg x))))) lv (pc + 1) st) : V p l e R s m args below meth c D B nL Q ce sl f lv pc (.int x :: .int i :: .ref a :: st) := fun H locs ls h hS hl => by
  obtain ⟨ws, q0, hP, hD, hq, hset⟩ := h.place he
  exact va_iast C.1 C.2.1 C.2.2.2.2.2.1 hP hD hS q0 0 hq rfl hi hd (fun H1 locs1 hP1 hD1 hS1 => k H1 locs1 ls (hset _ H1 hP1 hD1) hS1 hl)
theorem v_last (C : Cx p s m args c cc nL own D B K) {a n : Nat} {g : Nat → Int64} {i : Int32} {x : Int64} (hd : decode cc pc = .ok (.lastore, 1)) (he : f a = some (.inl (K 1, n, .inr (.inl g)))) (hi : vp_in i n) (k : V p l e R s m args below meth c D B nL Q ce sl (va_up f a (some (.inl (K 1, n, .inr (.inl (vp_updL g i.toNatClampNeg x)))))) lv (pc + 1) st) : V p l e R s m args below meth c D B nL Q ce sl f lv pc (.long x :: .int i :: .ref a :: st) := fun H locs ls h hS hl => by
  obtain ⟨ws, q0, hP, hD, hq, hset⟩ := h.place he
  exact va_last C.1 C.2.1 C.2.2.2.2.2.1 hP hD hS q0 1 hq rfl hi hd (fun H1 locs1 hP1 hD1 hS1 => k H1 locs1 ls (hset _ H1 hP1 hD1) hS1 hl)
theorem v_zast (C : Cx p s m args c cc nL own D B K) {a n : Nat} {g : Nat → Int32} {i : Int32} {x : Int32} (hd : decode cc pc = .ok (.bastore, 1)) (he : f a = some (.inl (K 2, n, .inl g))) (hi : vp_in i n) (k : V p l e R s m args below meth c D B nL Q ce sl (va_up f a (some (.inl (K 2, n, .inl (upd g i.toNatClampNeg (vp_nar .boolean x)))))) lv (pc + 1) st) : V p l e R s m args below meth c D B nL Q ce sl f lv pc (.int x :: .int i :: .ref a :: st) := fun H locs ls h hS hl => by
  obtain ⟨ws, q0, hP, hD, hq, hset⟩ := h.place he
  exact va_zast C.1 C.2.1 C.2.2.2.2.2.1 hP hD hS q0 2 hq rfl hi hd (fun H1 locs1 hP1 hD1 hS1 => k H1 locs1 ls (hset _ H1 hP1 hD1) hS1 hl)
theorem v_aldq (C : Cx p s m args c cc nL own D B K) {a n : Nat} {g : Nat → Option Nat} {i : Int32} (hd : decode cc pc = .ok (.aaload, 1)) (he : f a = some (.inl (K 3, n, .inr (.inr (.inr (.inr g)))))) (hi : vp_in i n) (k : V p l e R s m args below meth c D B nL Q ce sl f lv (pc + 1) (va_rf (g i.toNatClampNeg) :: st)) : V p l e R s m args below meth c D B nL Q ce sl f lv pc (.int i :: .ref a :: st) := fun H locs ls h hS hl => va_aldq (C := RX5) C.1 C.2.1 C.2.2.2.2.2.1 (h.one he) 0 3 rfl rfl hi hd (k H locs ls h hS hl)
theorem v_alda (C : Cx p s m args c cc nL own D B K) {a n : Nat} {g : Nat → Option Nat} {i : Int32} (hd : decode cc pc = .ok (.aaload, 1)) (he : f a = some (.inl (K 4, n, .inr (.inr (.inr (.inr g)))))) (hi : vp_in i n) (k : V p l e R s m args below meth c D B nL Q ce sl f lv (pc + 1) (va_rf (g i.toNatClampNeg) :: st)) : V p l e R s m args below meth c D B nL Q ce sl f lv pc (.int i :: .ref a :: st) := fun H locs ls h hS hl => by
  have hlt : i.toNatClampNeg < n := Nat.not_le.mp fun q => hi (Or.inr q)
  exact W.aald (v := va_rf (g i.toNatClampNeg)) (ty := .array .int) C.1 C.2.1 (h.one he 0 _ rfl) ((C.2.2.2.2.2.1.2 4 _ rfl).1 n (fun j => va_rf (g j))) rfl (fun q => by cases q) (by show ¬ (i < 0 ∨ (arrV _ _ _).slots.size ≤ _); rw [arrV_size]; exact hi) (by show (arrV _ _ _).slots[_]? = _; rw [arrV_read _ _ hlt]) rfl rfl hd (k H locs ls h hS hl)
theorem v_alen (C : Cx p s m args c cc nL own D B K) {a : Nat} {cA : ClassId} {x : vp_A} {ty : FieldType} {v : Int32} (hd : decode cc pc = .ok (.arraylength, 1)) (t0 : Nat) (he : f a = some (.inl (cA, x))) (ht : (tyL K)[t0]? = some (cA, ty)) (hv : Int32.ofNat x.1 = v) (k : V p l e R s m args below meth c D B nL Q ce sl f lv (pc + 1) (.int v :: st)) : V p l e R s m args below meth c D B nL Q ce sl f lv pc (.ref a :: st) := fun H locs ls h hS hl => va_alen C.1 C.2.1 C.2.2.2.2.2.1 (h.one he) 0 t0 rfl ht hv hd (k H locs ls h hS hl)
theorem v_widen {ce2 sl2 : Nat} (h1 : ce ≤ ce2) (h2 : sl ≤ sl2) (k : V p l e R s m args below meth c D B nL Q ce2 sl2 f lv pc st) : V p l e R s m args below meth c D B nL Q ce sl f lv pc st := fun H locs ls h hS hl => W.widen h1 h2 (k H locs ls h hS hl)
theorem v_eq {pc2 : Nat} (h1 : pc2 = pc) (k : V p l e R s m args below meth c D B nL Q ce sl f lv pc2 st) : V p l e R s m args below meth c D B nL Q ce sl f lv pc st := by subst h1; exact k
theorem v_loc (l9 : List (Nat × Value)) (hs : lsub lv l9) (k : V p l e R s m args below meth c D B nL Q ce sl f (lof l9) pc st) : V p l e R s m args below meth c D B nL Q ce sl f lv pc st := fun H locs ls h hS hl => k H locs ls h hS (hl.sub hs)
theorem v_top {v : Value} (k : ∀ w, w = v → V p l e R s m args below meth c D B nL Q ce sl f lv pc (w :: st)) : V p l e R s m args below meth c D B nL Q ce sl f lv pc (v :: st) := k v rfl
theorem v_topi {x : Int32} (k : ∀ y : Int32, y = x → V p l e R s m args below meth c D B nL Q ce sl f lv pc (.int y :: st)) : V p l e R s m args below meth c D B nL Q ce sl f lv pc (.int x :: st) := k x rfl
theorem v_topl {x : Int64} (k : ∀ y : Int64, y = x → V p l e R s m args below meth c D B nL Q ce sl f lv pc (.long y :: st)) : V p l e R s m args below meth c D B nL Q ce sl f lv pc (.long x :: st) := k x rfl
theorem v_ri {x y : Int32} (e9 : x = y) (k : V p l e R s m args below meth c D B nL Q ce sl f lv pc (.int y :: st)) : V p l e R s m args below meth c D B nL Q ce sl f lv pc (.int x :: st) := by subst e9; exact k
theorem v_rl {x y : Int64} (e9 : x = y) (k : V p l e R s m args below meth c D B nL Q ce sl f lv pc (.long y :: st)) : V p l e R s m args below meth c D B nL Q ce sl f lv pc (.long x :: st) := by subst e9; exact k
theorem v_wf {f2 : St} (hs : ∀ a x, f2 a = some x → f a = some x) (k : V p l e R s m args below meth c D B nL Q ce sl f2 lv pc st) : V p l e R s m args below meth c D B nL Q ce sl f lv pc st := fun H locs ls h hS hl => k H locs ls (h.sub hs) hS hl
theorem v_apart (k : (∀ a x, f a = some x → B ≤ a) → V p l e R s m args below meth c D B nL Q ce sl f lv pc st) : V p l e R s m args below meth c D B nL Q ce sl f lv pc st := fun H locs ls h hS hl => k (fun a x hx => h.ge hx) H locs ls h hS hl
end VL
