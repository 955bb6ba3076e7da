section
-- ===== PART A: goes FIRST, ahead of the names: the tables' words, and 'selects' of the private methods out of them =====
/-- a private method of a class that the tables say can be made, by its rows of tables_1 -/
def lw_okq (q : MethodName × Nat) : Prop := (q.1.cls ≠ "java/lang/invoke/MethodHandle" ∧ q.1.cls ≠ "java/lang/invoke/VarHandle") ∧ Cond.instantiable q.1.cls q.2 ∈ tables_1 ∧ Cond.privateMethod q.1 ∈ tables_1 ∧ Cond.instanceMethod q.1 ∈ tables_1
theorem lw_p0 : lw_okq (⟨"IndexRanges", "addRow", "(IJJI)I"⟩, 8) := ⟨⟨by decide +kernel, by decide +kernel⟩, List.mem_of_getElem? (i := 21) (by decide +kernel), List.mem_of_getElem? (i := 97) (by decide +kernel), List.mem_of_getElem? (i := 98) (by decide +kernel)⟩
theorem lw_p1 : lw_okq (⟨"IndexRanges", "isFull", "()Z"⟩, 8) := ⟨⟨by decide +kernel, by decide +kernel⟩, List.mem_of_getElem? (i := 21) (by decide +kernel), List.mem_of_getElem? (i := 101) (by decide +kernel), List.mem_of_getElem? (i := 102) (by decide +kernel)⟩
theorem lw_p2 : lw_okq (⟨"IndexRanges", "add", "(LIndexRanges$Range;)I"⟩, 8) := ⟨⟨by decide +kernel, by decide +kernel⟩, List.mem_of_getElem? (i := 21) (by decide +kernel), List.mem_of_getElem? (i := 159) (by decide +kernel), List.mem_of_getElem? (i := 160) (by decide +kernel)⟩
theorem lw_p3 : lw_okq (⟨"IndexRanges", "rangeOf", "(I)LIndexRanges$Range;"⟩, 8) := ⟨⟨by decide +kernel, by decide +kernel⟩, List.mem_of_getElem? (i := 21) (by decide +kernel), List.mem_of_getElem? (i := 207) (by decide +kernel), List.mem_of_getElem? (i := 208) (by decide +kernel)⟩
theorem lw_p4 : lw_okq (⟨"IndexRanges", "addBeside", "(I[LIndexRanges$Range;)I"⟩, 8) := ⟨⟨by decide +kernel, by decide +kernel⟩, List.mem_of_getElem? (i := 21) (by decide +kernel), List.mem_of_getElem? (i := 229) (by decide +kernel), List.mem_of_getElem? (i := 230) (by decide +kernel)⟩
theorem lw_p5 : lw_okq (⟨"IndexRanges", "placeOfHand", "(LIndexRanges$Range;)J"⟩, 8) := ⟨⟨by decide +kernel, by decide +kernel⟩, List.mem_of_getElem? (i := 21) (by decide +kernel), List.mem_of_getElem? (i := 283) (by decide +kernel), List.mem_of_getElem? (i := 284) (by decide +kernel)⟩
theorem lw_p6 : lw_okq (⟨"IndexRanges$Row", "liesInRow", "(LIndexRanges$Row;)Z"⟩, 7) := ⟨⟨by decide +kernel, by decide +kernel⟩, List.mem_of_getElem? (i := 105) (by decide +kernel), List.mem_of_getElem? (i := 384) (by decide +kernel), List.mem_of_getElem? (i := 385) (by decide +kernel)⟩
theorem lw_p7 : lw_okq (⟨"IndexRanges", "baseOf", "(I)LIndexRanges$Range;"⟩, 8) := ⟨⟨by decide +kernel, by decide +kernel⟩, List.mem_of_getElem? (i := 21) (by decide +kernel), List.mem_of_getElem? (i := 396) (by decide +kernel), List.mem_of_getElem? (i := 397) (by decide +kernel)⟩
theorem lw_p8 : lw_okq (⟨"IndexRanges", "cellsInUse", "()I"⟩, 8) := ⟨⟨by decide +kernel, by decide +kernel⟩, List.mem_of_getElem? (i := 21) (by decide +kernel), List.mem_of_getElem? (i := 428) (by decide +kernel), List.mem_of_getElem? (i := 429) (by decide +kernel)⟩
theorem lw_p9 : lw_okq (⟨"java/lang/Throwable", "fillInStackTrace", "(I)Ljava/lang/Throwable;"⟩, 6) := ⟨⟨by decide +kernel, by decide +kernel⟩, List.mem_of_getElem? (i := 481) (by decide +kernel), List.mem_of_getElem? (i := 479) (by decide +kernel), List.mem_of_getElem? (i := 480) (by decide +kernel)⟩
theorem lw_p10 : lw_okq (⟨"IndexRanges", "cellOfHand", "(LIndexRanges$Range;)I"⟩, 8) := ⟨⟨by decide +kernel, by decide +kernel⟩, List.mem_of_getElem? (i := 21) (by decide +kernel), List.mem_of_getElem? (i := 640) (by decide +kernel), List.mem_of_getElem? (i := 641) (by decide +kernel)⟩
theorem lw_p11 : lw_okq (⟨"IndexRangesModel", "addSingle", "(IJJI)I"⟩, 22) := ⟨⟨by decide +kernel, by decide +kernel⟩, List.mem_of_getElem? (i := 652) (by decide +kernel), List.mem_of_getElem? (i := 734) (by decide +kernel), List.mem_of_getElem? (i := 735) (by decide +kernel)⟩
theorem lw_p12 : lw_okq (⟨"IndexRangesModel", "singleSize", "(I)J"⟩, 22) := ⟨⟨by decide +kernel, by decide +kernel⟩, List.mem_of_getElem? (i := 652) (by decide +kernel), List.mem_of_getElem? (i := 738) (by decide +kernel), List.mem_of_getElem? (i := 739) (by decide +kernel)⟩
theorem lw_p13 : lw_okq (⟨"IndexRangesModel", "noRange", "(I)Z"⟩, 22) := ⟨⟨by decide +kernel, by decide +kernel⟩, List.mem_of_getElem? (i := 652) (by decide +kernel), List.mem_of_getElem? (i := 771) (by decide +kernel), List.mem_of_getElem? (i := 772) (by decide +kernel)⟩
theorem lw_p14 : lw_okq (⟨"IndexRangesModel", "begin", "(III)I"⟩, 22) := ⟨⟨by decide +kernel, by decide +kernel⟩, List.mem_of_getElem? (i := 652) (by decide +kernel), List.mem_of_getElem? (i := 775) (by decide +kernel), List.mem_of_getElem? (i := 776) (by decide +kernel)⟩
theorem lw_p15 : lw_okq (⟨"IndexRangesModel", "take", "(IIIZ)V"⟩, 22) := ⟨⟨by decide +kernel, by decide +kernel⟩, List.mem_of_getElem? (i := 652) (by decide +kernel), List.mem_of_getElem? (i := 779) (by decide +kernel), List.mem_of_getElem? (i := 780) (by decide +kernel)⟩
def lw_privs_1 : List (MethodName × Nat) := [(⟨"IndexRanges", "addRow", "(IJJI)I"⟩, 8), (⟨"IndexRanges", "isFull", "()Z"⟩, 8), (⟨"IndexRanges", "add", "(LIndexRanges$Range;)I"⟩, 8), (⟨"IndexRanges", "rangeOf", "(I)LIndexRanges$Range;"⟩, 8), (⟨"IndexRanges", "addBeside", "(I[LIndexRanges$Range;)I"⟩, 8), (⟨"IndexRanges", "placeOfHand", "(LIndexRanges$Range;)J"⟩, 8), (⟨"IndexRanges$Row", "liesInRow", "(LIndexRanges$Row;)Z"⟩, 7), (⟨"IndexRanges", "baseOf", "(I)LIndexRanges$Range;"⟩, 8), (⟨"IndexRanges", "cellsInUse", "()I"⟩, 8), (⟨"java/lang/Throwable", "fillInStackTrace", "(I)Ljava/lang/Throwable;"⟩, 6), (⟨"IndexRanges", "cellOfHand", "(LIndexRanges$Range;)I"⟩, 8), (⟨"IndexRangesModel", "addSingle", "(IJJI)I"⟩, 22), (⟨"IndexRangesModel", "singleSize", "(I)J"⟩, 22), (⟨"IndexRangesModel", "noRange", "(I)Z"⟩, 22), (⟨"IndexRangesModel", "begin", "(III)I"⟩, 22), (⟨"IndexRangesModel", "take", "(IIIZ)V"⟩, 22)]
theorem lw_r1 : ∀ q ∈ lw_privs_1, lw_okq q := List.forall_mem_cons.mpr ⟨lw_p0, List.forall_mem_cons.mpr ⟨lw_p1, List.forall_mem_cons.mpr ⟨lw_p2, List.forall_mem_cons.mpr ⟨lw_p3, List.forall_mem_cons.mpr ⟨lw_p4, List.forall_mem_cons.mpr ⟨lw_p5, List.forall_mem_cons.mpr ⟨lw_p6, List.forall_mem_cons.mpr ⟨lw_p7, List.forall_mem_cons.mpr ⟨lw_p8, List.forall_mem_cons.mpr ⟨lw_p9, List.forall_mem_cons.mpr ⟨lw_p10, List.forall_mem_cons.mpr ⟨lw_p11, List.forall_mem_cons.mpr ⟨lw_p12, List.forall_mem_cons.mpr ⟨lw_p13, List.forall_mem_cons.mpr ⟨lw_p14, List.forall_mem_cons.mpr ⟨lw_p15, fun _ h => absurd h List.not_mem_nil⟩⟩⟩⟩⟩⟩⟩⟩⟩⟩⟩⟩⟩⟩⟩⟩
theorem lw_p16 : lw_okq (⟨"IndexRangesModel", "sizeOf", "(I)J"⟩, 22) := ⟨⟨by decide +kernel, by decide +kernel⟩, List.mem_of_getElem? (i := 652) (by decide +kernel), List.mem_of_getElem? (i := 783) (by decide +kernel), List.mem_of_getElem? (i := 784) (by decide +kernel)⟩
theorem lw_p17 : lw_okq (⟨"IndexRangesModel", "isHeld", "(I)Z"⟩, 22) := ⟨⟨by decide +kernel, by decide +kernel⟩, List.mem_of_getElem? (i := 652) (by decide +kernel), List.mem_of_getElem? (i := 820) (by decide +kernel), List.mem_of_getElem? (i := 821) (by decide +kernel)⟩
theorem lw_p18 : lw_okq (⟨"IndexRangesModel", "hasNumber", "(IJ)Z"⟩, 22) := ⟨⟨by decide +kernel, by decide +kernel⟩, List.mem_of_getElem? (i := 652) (by decide +kernel), List.mem_of_getElem? (i := 824) (by decide +kernel), List.mem_of_getElem? (i := 825) (by decide +kernel)⟩
theorem lw_p19 : lw_okq (⟨"IndexRangesModel", "place", "(I)J"⟩, 22) := ⟨⟨by decide +kernel, by decide +kernel⟩, List.mem_of_getElem? (i := 652) (by decide +kernel), List.mem_of_getElem? (i := 831) (by decide +kernel), List.mem_of_getElem? (i := 832) (by decide +kernel)⟩
theorem lw_p20 : lw_okq (⟨"IndexRangesModel", "placeOf", "(IJ)J"⟩, 22) := ⟨⟨by decide +kernel, by decide +kernel⟩, List.mem_of_getElem? (i := 652) (by decide +kernel), List.mem_of_getElem? (i := 835) (by decide +kernel), List.mem_of_getElem? (i := 836) (by decide +kernel)⟩
theorem lw_p21 : lw_okq (⟨"IndexRangesModel", "hasPlace", "(IJ)Z"⟩, 22) := ⟨⟨by decide +kernel, by decide +kernel⟩, List.mem_of_getElem? (i := 652) (by decide +kernel), List.mem_of_getElem? (i := 847) (by decide +kernel), List.mem_of_getElem? (i := 848) (by decide +kernel)⟩
theorem lw_p22 : lw_okq (⟨"IndexRangesModel", "lay", "(IJ[J)V"⟩, 22) := ⟨⟨by decide +kernel, by decide +kernel⟩, List.mem_of_getElem? (i := 652) (by decide +kernel), List.mem_of_getElem? (i := 851) (by decide +kernel), List.mem_of_getElem? (i := 852) (by decide +kernel)⟩
theorem lw_p23 : lw_okq (⟨"IndexRangesModel", "numberAt", "(IJ)J"⟩, 22) := ⟨⟨by decide +kernel, by decide +kernel⟩, List.mem_of_getElem? (i := 652) (by decide +kernel), List.mem_of_getElem? (i := 855) (by decide +kernel), List.mem_of_getElem? (i := 856) (by decide +kernel)⟩
theorem lw_p24 : lw_okq (⟨"IndexRangesModel", "liesIn", "(II)Z"⟩, 22) := ⟨⟨by decide +kernel, by decide +kernel⟩, List.mem_of_getElem? (i := 652) (by decide +kernel), List.mem_of_getElem? (i := 872) (by decide +kernel), List.mem_of_getElem? (i := 873) (by decide +kernel)⟩
theorem lw_p25 : lw_okq (⟨"IndexRangesModel", "lastOf", "(I)J"⟩, 22) := ⟨⟨by decide +kernel, by decide +kernel⟩, List.mem_of_getElem? (i := 652) (by decide +kernel), List.mem_of_getElem? (i := 876) (by decide +kernel), List.mem_of_getElem? (i := 877) (by decide +kernel)⟩
theorem lw_p26 : lw_okq (⟨"IndexRangesModel", "noArray", "(I)Z"⟩, 22) := ⟨⟨by decide +kernel, by decide +kernel⟩, List.mem_of_getElem? (i := 652) (by decide +kernel), List.mem_of_getElem? (i := 889) (by decide +kernel), List.mem_of_getElem? (i := 890) (by decide +kernel)⟩
theorem lw_p27 : lw_okq (⟨"IndexRangesModel", "cellOf", "(I)I"⟩, 22) := ⟨⟨by decide +kernel, by decide +kernel⟩, List.mem_of_getElem? (i := 652) (by decide +kernel), List.mem_of_getElem? (i := 893) (by decide +kernel), List.mem_of_getElem? (i := 894) (by decide +kernel)⟩
def lw_privs_2 : List (MethodName × Nat) := [(⟨"IndexRangesModel", "sizeOf", "(I)J"⟩, 22), (⟨"IndexRangesModel", "isHeld", "(I)Z"⟩, 22), (⟨"IndexRangesModel", "hasNumber", "(IJ)Z"⟩, 22), (⟨"IndexRangesModel", "place", "(I)J"⟩, 22), (⟨"IndexRangesModel", "placeOf", "(IJ)J"⟩, 22), (⟨"IndexRangesModel", "hasPlace", "(IJ)Z"⟩, 22), (⟨"IndexRangesModel", "lay", "(IJ[J)V"⟩, 22), (⟨"IndexRangesModel", "numberAt", "(IJ)J"⟩, 22), (⟨"IndexRangesModel", "liesIn", "(II)Z"⟩, 22), (⟨"IndexRangesModel", "lastOf", "(I)J"⟩, 22), (⟨"IndexRangesModel", "noArray", "(I)Z"⟩, 22), (⟨"IndexRangesModel", "cellOf", "(I)I"⟩, 22)]
theorem lw_r2 : ∀ q ∈ lw_privs_2, lw_okq q := List.forall_mem_cons.mpr ⟨lw_p16, List.forall_mem_cons.mpr ⟨lw_p17, List.forall_mem_cons.mpr ⟨lw_p18, List.forall_mem_cons.mpr ⟨lw_p19, List.forall_mem_cons.mpr ⟨lw_p20, List.forall_mem_cons.mpr ⟨lw_p21, List.forall_mem_cons.mpr ⟨lw_p22, List.forall_mem_cons.mpr ⟨lw_p23, List.forall_mem_cons.mpr ⟨lw_p24, List.forall_mem_cons.mpr ⟨lw_p25, List.forall_mem_cons.mpr ⟨lw_p26, List.forall_mem_cons.mpr ⟨lw_p27, fun _ h => absurd h List.not_mem_nil⟩⟩⟩⟩⟩⟩⟩⟩⟩⟩⟩⟩
def lw_privs : List (MethodName × Nat) := lw_privs_1 ++ (lw_privs_2)
def lw_tbl : List Cond := k2_sels lw_privs ++ tables_1
theorem lw_privs_ok : ∀ q ∈ lw_privs, lw_okq q := by
  show ∀ q ∈ lw_privs_1 ++ (lw_privs_2), lw_okq q
  exact List.forall_mem_append.mpr ⟨lw_r1, lw_r2⟩
end
section
def va_AOA (ty : FieldType) (U : State) : Prop := (Cond.arrayOver (.array ty)).before #[] U = true
theorem va_AOA.of {ty : FieldType} {A : Array Value} {U : State} (h : (Cond.arrayOver (.array ty)).before A U = true) : va_AOA ty U := h
theorem va_AOA.use {ty : FieldType} {A : Array Value} {U : State} (h : va_AOA ty U) : (Cond.arrayOver (.array ty)).before A U = true := h
/-! ===== BEGIN words of one list among another's, by their places ===== -/
theorem goodIn_r {big : List Cond} (ws : List Cond) (ps : List Nat) (hp : ws = ps.filterMap (fun i => big[i]?)) (h : ws.all goodWord = true) : GoodIn big ws := by
  intro w hw
  have h1 := List.all_eq_true.mp h w hw
  rw [hp] at hw
  obtain ⟨i, -, hi⟩ := List.mem_filterMap.mp hw
  have hm : w ∈ big := by first | exact List.mem_of_getElem? hi | exact List.getElem?_mem hi
  exact ⟨hm, good_of_word h1⟩
theorem goodIn_app {big a b : List Cond} (ha : GoodIn big a) (hb : GoodIn big b) : GoodIn big (a ++ b) := fun w h => (List.mem_append.mp h).elim (ha w) (hb w)
theorem goodIn_ca {big a b : List Cond} {c : Cond} (ha : GoodIn big (c :: a)) (hb : GoodIn big b) : GoodIn big (c :: (a ++ b)) := fun w h => (List.mem_cons.mp h).elim (fun e => ha w (List.mem_cons.mpr (Or.inl e))) (fun h => (List.mem_append.mp h).elim (fun h => ha w (List.mem_cons.mpr (Or.inr h))) (hb w))
theorem goodIn_sub {big ws : List Cond} (hm : ∀ w ∈ ws, w ∈ big) (h : ws.all goodWord = true) : GoodIn big ws := fun w hw => ⟨hm w hw, good_of_word (List.all_eq_true.mp h w hw)⟩
/-! ===== END ===== -/

/-! ===== BEGIN new T[n][m]: the outer array a place, the inner ones among the pooled ===== -/
/-- f, but v at every address of l -/
def vr_up {α : Type} (f : Nat → α) (l : List Nat) (v : α) : Nat → α := fun a => if a ∈ l then v else f a
theorem vr_up_in {α : Type} {f : Nat → α} {l : List Nat} {v : α} {a : Nat} (h : a ∈ l) : vr_up f l v a = v := if_pos h
theorem vr_up_ne {α : Type} {f : Nat → α} {l : List Nat} {v : α} {a : Nat} (h : a ∉ l) : vr_up f l v a = f a := if_neg h
theorem vr_rows {L l : List Nat} {f : Nat → va_E} {e : va_E} (h : ∀ a, a ∈ l → a ∉ L) : va_pl L f ++ l.map (fun a => (a, e)) = va_pl (L ++ l) (vr_up f l e) := by
  unfold va_pl
  rw [List.map_append]
  congr 1
  · apply List.map_congr_left
    intro a ha
    rw [vr_up_ne (fun q => h a q ha)]
  · apply List.map_congr_left
    intro a ha
    rw [vr_up_in ha]
theorem vr_lay {X rows : va_W} {x : Nat × va_E} {pl : va_W} {D : va_G} {cl : List vw_C} {H : Heap} (hP : va_P D cl (((X ++ pl) ++ [x]) ++ rows) H) : va_P D cl ((X ++ [x]) ++ (pl ++ rows)) H := by
  rw [List.append_assoc (X ++ pl)] at hP
  have h := va_P.swap hP
  rw [← List.append_assoc X] at h
  have h2 := va_P.swap h
  rw [List.append_assoc (X ++ [x])] at h2
  exact h2
theorem vr_layD {X rows : va_W} {x : Nat × va_E} {pl : va_W} {A : Nat → Prop} (hD : va_D A (((X ++ pl) ++ [x]) ++ rows)) : va_D A ((X ++ [x]) ++ (pl ++ rows)) := by
  rw [List.append_assoc (X ++ pl)] at hD
  have h := va_D.swap hD
  rw [← List.append_assoc X] at h
  have h2 := va_D.swap h
  rw [List.append_assoc (X ++ [x])] at h2
  exact h2
theorem vr_outer (c : ClassId) (N h0 : Nat) : ∀ i : Nat, Jvm.Free.Multi.outerC c N h0 i = arrV c N (fun j => va_rf (if j < i then some (h0 + 1 + j) else none))
  | 0 => by
    show ({ cls := c, slots := Array.replicate N .null, vm := .none } : Cell) = _
    rw [arrV_new]
    refine congrArg (arrV c N) (funext fun j => ?_)
    simp [va_rf]
  | i + 1 => by
    show (Jvm.Free.Multi.outerC c N h0 i).setSlot i (.ref (h0 + 1 + i)) = _
    rw [vr_outer c N h0 i, arrV_store]
    refine congrArg (arrV c N) (funext fun j => ?_)
    by_cases e : j = i
    · subst e
      simp [updV, va_rf]
    · by_cases h : j < i
      · simp [updV, e, h, Nat.lt_succ_of_lt h]
      · simp [updV, e, h, show ¬ j < i + 1 by omega]
section VGM
variable {p : Program} {l : Launch} {e : Env} {R : Room} {s : State} {m : MethodId} {args : Array Value} {below : List Frame} {meth : Method} {c : Code} {H : Heap} {locs : List Loc} {cells slots : Nat} {Q : State → Prop}
variable {cc : ByteArray} {pc : Nat} {ls : Array Slot} {rest : List Value} {D : va_G} {cl : List vw_C} {A : Nat → Prop} {a : Nat} {tys : List (ClassId × FieldType)} {ws : va_W} {H0 : Heap}
theorem va_mna {X : va_W} {L : List Nat} {f : Nat → va_E} {cc : ByteArray} (hexec : p.tables.exec = Jvm.exec) (hb : c.code = cc) {own : String} {index : Nat} {ty : FieldType} {cy : ClassId} (hown : s.vm.findClass own = some m.cls) (hclink : (Cond.classLink own index ("[" ++ (FieldType.array ty).toString)).before args s = true) (hover : va_AOA ty s) (harr : (Cond.arrayClass ty).before args s = true) (hcy : s.vm.findClass (FieldType.array ty).toString = some cy)
    (hK : va_K D cl tys s) (hP : va_P D cl (X ++ va_pl L f) H) (hD : va_D A (X ++ va_pl L f)) (hS : va_S A H0 H locs) (hA : ∀ q, H0.size ≤ q → A q) {n k : Int32} {N' K' : Nat} {z : vp_A} (hn : ¬ n < 0) (hk : ¬ k < 0) (hN : n.toNatClampNeg = N') (hM : k.toNatClampNeg = K')
    (hb1 : N' * 4 ≤ 536870912) (hb2 : K' * componentBytes ty ≤ 536870912) (hb3 : K' ≤ 536870912) (hdf : fits ty (defaultValue ty) = true) (hdd : (defaultValue ty).isDefault = true) (hcells : cells + (1 + N') ≤ R.cells) (hslots : slots + (N' + N' * K') ≤ R.slots) (hz : ∀ c : ClassId, Jvm.Free.Multi.innerC c K' (defaultValue ty) = vp_cell c z) (hdg : decode cc pc = .ok (.multianewarray index 2, 4))
    (kk : ∀ (q : Nat) (r : Nat → Nat) (cA : ClassId) (H1 : Heap), (∀ i j : Nat, i < N' → j < N' → r i = r j → i = j) → (∀ i : Nat, i < N' → r i ∉ L) → va_K D cl (tys ++ [(cA, .array ty)]) s →
      va_P D cl ((X ++ [(q, .inl (cA, N', .inr (.inr (.inr (.inr (fun i => if i < N' then some (r i) else none))))))]) ++ va_pl (L ++ (List.range N').map r) (vr_up f ((List.range N').map r) (.inl (cy, z)))) H1 → va_D A ((X ++ [(q, .inl (cA, N', .inr (.inr (.inr (.inr (fun i => if i < N' then some (r i) else none))))))]) ++ va_pl (L ++ (List.range N').map r) (vr_up f ((List.range N').map r) (.inl (cy, z)))) → va_S A H0 H1 locs →
      W p l e R s m args below meth c H1 locs (cells + 1 + N') (slots + N' + N' * K') Q (F0 m (pc + 4) ls (.ref q :: rest))) : W p l e R s m args below meth c H locs cells slots Q (F0 m pc ls (.int k :: .int n :: rest)) := by
  subst hN
  subst hM
  intro T hT Xs
  obtain ⟨vm₁, cA, comp, -, fA, fC, hO, -, X', step⟩ := Xs.multianewarray2F hexec hown hclink (va_AOA.use hover) harr (g := F0 m pc ls (.int k :: .int n :: rest)) rfl (by rw [hb]; exact hdg) rfl hn hk hb1 hb2 hb3 hdf hdd hcells hslots
  have ec : some cy = some comp := hcy.symm.trans fC
  cases ec
  generalize hF : Jvm.Free.Multi.fill (T.setVm vm₁) cA cy n.toNatClampNeg k.toNatClampNeg (defaultValue ty) n.toNatClampNeg = F at X' step
  have hTh : (T.setVm vm₁).heap = H := hT
  obtain ⟨f1, f2, -, -⟩ := Jvm.Free.Multi.fill_facts (T.setVm vm₁) cA cy n.toNatClampNeg k.toNatClampNeg (defaultValue ty) n.toNatClampNeg
  rw [hF, hTh] at f1 f2
  have hold : ∀ x : Nat, x < H.size → F.heap[x]? = H[x]? := fun x hx => by
    have := Jvm.Free.Multi.fill_old (T.setVm vm₁) cA cy n.toNatClampNeg k.toNatClampNeg (defaultValue ty) (a := x) (by rw [hTh]; exact hx) n.toNatClampNeg
    rw [hF, hTh] at this
    exact this
  have hrow : ∀ j : Nat, j < n.toNatClampNeg → F.heap[H.size + 1 + j]? = some (vp_cell cy z) := fun j hj => by
    have := Jvm.Free.Multi.fill_inner (T.setVm vm₁) cA cy n.toNatClampNeg k.toNatClampNeg (defaultValue ty) n.toNatClampNeg j hj
    rw [hF, hTh, hz] at this
    exact this
  have hout : Jvm.Free.Multi.outerC cA n.toNatClampNeg H.size n.toNatClampNeg = vp_cell cA (n.toNatClampNeg, .inr (.inr (.inr (.inr (fun i => if i < n.toNatClampNeg then some (H.size + 1 + i) else none))))) := by
    rw [vp_cell_q]
    exact vr_outer cA n.toNatClampNeg H.size n.toNatClampNeg
  rw [hout] at f2
  have hlt : ∀ a, a ∈ L → a < H.size := fun a ha => by
    obtain ⟨k9, hk9⟩ := va_pl_get (X := X) (f := f) ha
    exact (hP k9 _ hk9).lt
  have hnl : ∀ i : Nat, i < n.toNatClampNeg → H.size + 1 + i ∉ L := fun i _ h => by
    have := hlt _ h
    omega
  have hnm : ∀ a, a ∈ (List.range n.toNatClampNeg).map (fun i => H.size + 1 + i) → a ∉ L := fun a ha h => by
    obtain ⟨i, -, rfl⟩ := List.mem_map.mp ha
    have := hlt _ h
    omega
  have hP0 : va_P D cl (X ++ va_pl L f) F.heap := hP.kept (fun k9 x hx => hold x.1 ((hP k9 x hx).lt))
  have hP1 : va_P D cl ((X ++ va_pl L f) ++ [(H.size, .inl (cA, n.toNatClampNeg, .inr (.inr (.inr (.inr (fun i => if i < n.toNatClampNeg then some (H.size + 1 + i) else none))))))]) F.heap := hP0.app (fun k9 x hx => by
    have h0 : k9 < 1 := (List.getElem?_eq_some_iff.mp hx).1
    rw [show k9 = 0 by omega] at hx
    cases hx
    exact f2)
  have hP2 : va_P D cl (((X ++ va_pl L f) ++ [(H.size, .inl (cA, n.toNatClampNeg, .inr (.inr (.inr (.inr (fun i => if i < n.toNatClampNeg then some (H.size + 1 + i) else none))))))]) ++ ((List.range n.toNatClampNeg).map (fun i => H.size + 1 + i)).map (fun a => (a, .inl (cy, z)))) F.heap := hP1.app (fun k9 x hx => by
    obtain ⟨a, ha, rfl⟩ := List.mem_map.mp (List.mem_of_getElem? hx)
    obtain ⟨i, hi, rfl⟩ := List.mem_map.mp ha
    exact hrow i (List.mem_range.mp hi))
  have hD2 : va_D A (((X ++ va_pl L f) ++ [(H.size, .inl (cA, n.toNatClampNeg, .inr (.inr (.inr (.inr (fun i => if i < n.toNatClampNeg then some (H.size + 1 + i) else none))))))]) ++ ((List.range n.toNatClampNeg).map (fun i => H.size + 1 + i)).map (fun a => (a, .inl (cy, z)))) := by
    have hD1 := hD.push (e := .inl (cA, n.toNatClampNeg, .inr (.inr (.inr (.inr (fun i => if i < n.toNatClampNeg then some (H.size + 1 + i) else none)))))) hP rfl (hA _ hS.1)
    generalize hW1 : (X ++ va_pl L f) ++ [(H.size, .inl (cA, n.toNatClampNeg, .inr (.inr (.inr (.inr (fun i => if i < n.toNatClampNeg then some (H.size + 1 + i) else none))))))] = W1 at hD1 hP1 ⊢
    have hle : ∀ (k9 : Nat) (x : Nat × va_E), W1[k9]? = some x → x.1 ≤ H.size := fun k9 x hx => by
      rw [← hW1] at hx
      by_cases hl : k9 < (X ++ va_pl L f).length
      · rw [List.getElem?_append_left hl] at hx
        exact Nat.le_of_lt ((hP k9 x hx).lt)
      · rw [List.getElem?_append_right (by omega)] at hx
        have h0 : k9 - (X ++ va_pl L f).length < 1 := (List.getElem?_eq_some_iff.mp hx).1
        rw [show k9 - (X ++ va_pl L f).length = 0 by omega] at hx
        cases hx
        exact Nat.le_refl _
    have hr : ∀ (k9 : Nat) (x : Nat × va_E), (((List.range n.toNatClampNeg).map (fun i => H.size + 1 + i)).map (fun a => ((a, .inl (cy, z)) : Nat × va_E)))[k9]? = some x → x.1 = H.size + 1 + k9 := fun k9 x hx => by
      rw [List.getElem?_map, List.getElem?_map] at hx
      by_cases h9 : k9 < n.toNatClampNeg
      · rw [List.getElem?_range h9] at hx
        cases hx
        rfl
      · have hn0 : (List.range n.toNatClampNeg)[k9]? = none := List.getElem?_eq_none (by rw [List.length_range]; omega)
        rw [hn0] at hx
        cases hx
    refine ⟨fun i j x y hi hj hxy => ?_, fun k9 x hx => ?_⟩
    · by_cases h1 : i < W1.length <;> by_cases h2 : j < W1.length
      · rw [List.getElem?_append_left h1] at hi
        rw [List.getElem?_append_left h2] at hj
        exact hD1.1 i j x y hi hj hxy
      · rw [List.getElem?_append_left h1] at hi
        rw [List.getElem?_append_right (by omega)] at hj
        have := hle _ _ hi
        have := hr _ _ hj
        omega
      · rw [List.getElem?_append_right (by omega)] at hi
        rw [List.getElem?_append_left h2] at hj
        have := hle _ _ hj
        have := hr _ _ hi
        omega
      · rw [List.getElem?_append_right (by omega)] at hi hj
        have := hr _ _ hi
        have := hr _ _ hj
        omega
    · by_cases h1 : k9 < W1.length
      · rw [List.getElem?_append_left h1] at hx
        exact hD1.2 k9 x hx
      · rw [List.getElem?_append_right (by omega)] at hx
        have := hr _ _ hx
        exact hA _ (by have := hS.1; omega)
  have hAr : ArrOfT s cA (.array ty) := fun N9 z9 => by
    obtain ⟨-, k9, hk9, cm9, hkk9⟩ := (hO 0 0 0).1
    exact ⟨(fun q hq => by cases hq), k9, hk9, cm9, hkk9⟩
  have hK2 : va_K D cl (tys ++ [(cA, .array ty)]) s := ⟨hK.1, fun k9 x hx => by
    by_cases hl : k9 < tys.length
    · rw [List.getElem?_append_left hl] at hx
      exact hK.2 k9 x hx
    · rw [List.getElem?_append_right (by omega)] at hx
      have h0 : k9 - tys.length < 1 := (List.getElem?_eq_some_iff.mp hx).1
      rw [show k9 - tys.length = 0 by omega] at hx
      cases hx
      exact ⟨hAr, fA⟩⟩
  obtain ⟨t, a1, b1⟩ := kk H.size (fun i => H.size + 1 + i) cA F.heap (fun i j _ _ h => by have h9 : H.size + 1 + i = H.size + 1 + j := h; omega) hnl hK2 (by rw [← vr_rows hnm]; exact vr_lay hP2) (by rw [← vr_rows hnm]; exact vr_layD hD2) ⟨by rw [f1]; have := hS.1; omega, fun x h1 h2 => (hold x (Nat.lt_of_lt_of_le h1 hS.1)).trans (hS.2.1 x h1 h2), hS.2.2⟩ F rfl X'
  refine ⟨t, step t ?_, b1⟩
  have e : T.heap.size = H.size := by rw [hT]
  rw [e]
  exact a1
end VGM
/-! ===== END ===== -/

/-! ===== BEGIN exceptions that leave a method, and their catching by the caller (launches without stack traces) ===== -/
section VXA
/-! The laws vx_back, vx_callV, vx_callS, vx_callSW, vx_throw0, vx_throwS follow proofs of the library, with one case more: JvmDerived/Free/Laws.lean (Back.of_free), Shelf42/LK1.lean (callV, callS), Shelf/KitTraced.lean (throwNew0V, throwNewS). -/
/-- where a method has thrown q: the class by its name, the cell, what was written, the world -/
def vx_T (XC : String → State → State → Prop) (st : State) (q : Addr) (t : State) (mc ms : Nat) (free : Addr → Prop) : Prop :=
  ∃ (E : String) (ce : Cell) (L : List Loc), XC E st t ∧ t.heap[q]? = some ce ∧ ce.vm = .none ∧ st.vm.findClass E = some ce.cls ∧ st.WarmedH t.vm ∧ st.sameButNew ({ t with vm := st.vm } : State) L mc ms ∧ ∀ z ∈ L, free z.base
def vx_Q (Qc : Array Value → State → Outcome → State → Prop) (XC : String → State → State → Prop) (mc ms : Nat) (free : Addr → Prop) : Array Value → State → Outcome → State → Prop := fun a st o t =>
  (Qc a st o t ∧ ∃ L, FrameEnd st o t L mc ms ∧ ∀ q ∈ L, free q.base) ∨ ∃ q, o = .threw q ∧ vx_T XC st q t mc ms free
/-- a callee that returns or throws -/
def vx_Met (l : Launch) (y : MethodName) (ws : List Cond) (rm : Room) (Pc : Array Value → State → Prop) (Qc : Array Value → State → Outcome → State → Prop) (XC : String → State → State → Prop) (mc ms : Nat) (free : Addr → Prop) : Prop :=
  MetFree l y (headSpec ws rm) Pc (fun _ _ _ _ _ => True) (vx_Q Qc XC mc ms free)
def vx_Post (XC : String → State → State → Prop) (mc ms : Nat) (free : Addr → Prop) : Pt → Array Value → Addr → Pt → Prop := fun A a q B =>
  ∃ (g : JFrame) (mk : MethodId) (t : State) (L : List Loc) (E : String) (ce : Cell), B.U.heap = t.heap ∧ B.U.vm = t.vm ∧ XC E (A.U.calling g mk a) t ∧ t.heap[q]? = some ce ∧ ce.vm = .none ∧ A.U.vm.findClass E = some ce.cls ∧ B.locs = A.locs ++ L ∧ (∀ z ∈ L, free z.base) ∧ B.cells = A.cells + mc ∧ B.slots = A.slots + ms
def vx_Back (l : Launch) (R : Room) (p : Program) (e : Env) (below : List Frame) (s : State) (sargs : Array Value) (y : MethodName) (len W9 : Nat)
    (Pre : Pt → Array Value → Prop) (Post : Pt → Array Value → Option Value → Pt → Prop) (PostX : Pt → Array Value → Addr → Pt → Prop) : Prop :=
  ∀ (m : MethodId) (meth : Method) (c : Code) (A : Pt) (g : JFrame) (ig : Instr) (mk : MethodId) (a : Array Value),
    Stand p l e R s m sargs below meth c A.U A.locs A.cells A.slots → g.method = m → g.locals.size = c.maxLocals → decode c.code g.pc = .ok (ig, len) →
    2 * g.monitorRoom + (g.stack.map fun v => v.category).sum ≤ W9 → A.U.methodNamed? y = some mk → Pre A a →
    (∃ (v : Option Value) (B : Pt), Stand p l e R s m sargs below meth c B.U B.locs B.cells B.slots ∧ Post A a v B ∧
      Steps p.tables e below (doInvoke e (A.U.setTop g) [] mk a).1 (B.U.setTop { g with pc := g.pc + len, stack := v.toList ++ g.stack })) ∨
    (∃ (q : Addr) (B : Pt), Stand p l e R s m sargs below meth c B.U B.locs B.cells B.slots ∧ PostX A a q B ∧
      Steps p.tables e below (doInvoke e (A.U.setTop g) [] mk a).1 ((B.U.setTop g).pushFrame (.throwing q)))
section Payer
variable {l : Launch} {R : Room} {p : Program} {e : Env} {below : List Frame} {s : State} {sargs : Array Value} {y : MethodName} {len W9 : Nat}
theorem vx_back {ws : List Cond} {rm : Room} {Pc : Array Value → State → Prop} {Qc : Array Value → State → Outcome → State → Prop} {XC : String → State → State → Prop} {mc ms : Nat} {free : Addr → Prop} {bytes : ByteArray} {maxL : Nat} {ret : Option FieldType}
    (hM : vx_Met l y ws rm Pc Qc XC mc ms free) (hblind : FrameBlind Pc) (hrc : rm.cells = mc) (hrs : rm.slots = ms)
    (hframes : rm.frames + 1 ≤ R.frames) (hlocals : W9 + (maxL + 11) + rm.locals ≤ R.locals)
    (hws : ∀ w ∈ ws, ∀ a' U, s.WarmedH U.vm → w.before a' U = true) (hcode : Cond.code y bytes maxL ret ∈ ws) (hinit : ∀ a' U, s.WarmedH U.vm → (Cond.initialized y.cls).before a' U = true) :
    vx_Back l R p e below s sargs y len W9 (PreOf R mc ms Pc) (PostOf Qc mc ms free) (vx_Post XC mc ms free) := by
  intro m meth c A g ig mk a X hg hsize hdg hW hn hp
  have h1 : (headSpec ws rm).pre.before a A.U = true := atoms_intro fun w hw => hws w hw _ _ X.warmed
  have h2 : (Cond.code y bytes maxL ret).before a A.U = true := hws _ hcode _ _ X.warmed
  have h3 : (Cond.initialized y.cls).before a A.U = true := hinit _ _ X.warmed
  have h4 : A.cells + (headSpec ws rm).room.cells ≤ R.cells := by rw [show (headSpec ws rm).room.cells = mc from hrc]; exact hp.1
  have h5 : A.slots + (headSpec ws rm).room.slots ≤ R.slots := by rw [show (headSpec ws rm).room.slots = ms from hrs]; exact hp.2.1
  have hPc : Pc a (A.U.calling g mk a) := hblind _ _ _ _ hp.2.2
  obtain ⟨U, Ls, c0, s0⟩ := A
  dsimp only [Pt.U, Pt.locs, Pt.cells, Pt.slots] at h1 h2 h3 h4 h5 X hn hPc ⊢
  obtain ⟨methY, cY, hmY, hcY, -, hlY, -, -, -, -⟩ := Cond.code_spec hn h2
  obtain ⟨kY, hkY, -⟩ := className_of_methodNamed hn
  have hinitY : kY.init = .initialized := Cond.initialized_spec (findClass_of_methodNamed hn) hkY h3
  have h : At U g.method c below := by rw [hg]; exact X.here
  have hlocals9 : W9 + (maxL + 11) + (headSpec ws rm).room.locals ≤ R.locals := hlocals
  have happ : (headSpec ws rm).appliesLoose y e.platform (U.calling g mk a) = true :=
    Spec.appliesLoose_calling (g := g) h hdg hn hkY hinitY
      (X.room_calling (g := g) (R' := (headSpec ws rm).room) hsize hmY hcY hframes (by rw [hlY]; omega) h4 h5) h1
  obtain ⟨mid, hmid⟩ := h.above
  have hfr : (U.setTop g).frames = (.java g :: mid) ++ below := by rw [State.frames_setTop' g h.top, hmid]; rfl
  obtain ⟨o, s₂, hsteps, -, hend, hq⟩ := Steps.callFree hM p X.admits X.cas X.clock (acts := []) hfr happ hPc trivial
  have hq' : vx_Q Qc XC mc ms free a (U.calling g mk a) o s₂ := hq
  rw [State.frames_setTop' g h.top] at hend
  obtain ⟨g₀, hg0⟩ := Option.isSome_iff_exists.mp h.top
  obtain ⟨r, hr⟩ := State.topJava?_eq_some.mp hg0
  have hr' : (({ U with heap := s₂.heap, slotsUsed := s₂.slotsUsed } : State).setVm s₂.vm).frames = .java g₀ :: r := hr
  rcases hq' with ⟨hqc, L, hfe, hL⟩ | ⟨q, rfl, E, ce, L, hx, hce, hcv, hcl, hW₂, hsm, hL⟩
  · obtain ⟨⟨v, rfl⟩, hW₂, e2, q2, q3, q4, q5, q6⟩ := id hfe
    have e3 : s₂ = ({ (U.calling g mk a).setFrames s₂.frames with heap := s₂.heap, slotsUsed := s₂.slotsUsed } : State).setVm s₂.vm := by
      have : s₂ = ({ s₂ with vm := (U.calling g mk a).vm } : State).setVm s₂.vm := rfl
      rw [e2] at this
      exact this
    obtain ⟨c₂, i₂, len₂, hc₂, hd₂, hf₂⟩ := hend
    have hW' : U.WarmedH s₂.vm := hW₂
    have hcc : c₂ = c := by
      have h1 : s₂.code? g.method = U.code? g.method := by
        rw [State.code?_eq, State.code?_eq, hW'.alike.method?]
      exact Option.some.inj (hc₂.symm.trans (h1.trans h.code))
    subst hcc
    have hlen : len₂ = len := by rw [hdg] at hd₂; cases hd₂; rfl
    subst hlen
    have hs₂ : s₂ = (({ U with heap := s₂.heap, slotsUsed := s₂.slotsUsed } : State).setVm s₂.vm).setTop { g with pc := g.pc + len₂, stack := v.toList ++ g.stack } := by
      refine e3.trans ?_
      rw [hf₂, State.calling_eq h.top, State.setFrames_setFrames, State.setTop_of_frames _ hr', hr]
      rfl
    have hsame : U.sameButNew ({ U with heap := s₂.heap, slotsUsed := s₂.slotsUsed } : State) L mc ms := by
      refine ⟨?_, q2, q3, q4, q5, q6⟩
      obtain ⟨t, ht, -⟩ := State.frames_cons hr
      show ({ U with heap := s₂.heap, slotsUsed := s₂.slotsUsed } : State) = { U.setFrames U.frames with heap := s₂.heap, slotsUsed := s₂.slotsUsed }
      rw [State.setFrames_self ht]
    subst hg
    refine Or.inl ⟨v, ⟨(({ U with heap := s₂.heap, slotsUsed := s₂.slotsUsed } : State).setVm s₂.vm), Ls ++ L, c0 + mc, s0 + ms⟩,
      ⟨X.admits, X.cas, X.clock, X.frames, X.room, X.hears, X.method, X.code, (X.here.setHeapUsed s₂.heap s₂.slotsUsed).setVm hW'.alike, X.tail, State.WarmedH.trans X.warmed hW', X.limits, X.bytes, X.same.trans (hsame.setVm s.vm)⟩,
      ⟨g, mk, s₂, L, rfl, rfl, hqc, rfl, hL, rfl, rfl⟩, ?_⟩
    show Steps p.tables e below _ ((({ U with heap := s₂.heap, slotsUsed := s₂.slotsUsed } : State).setVm s₂.vm).setTop { g with pc := g.pc + len₂, stack := v.toList ++ g.stack })
    rw [← hs₂]
    exact hsteps
  · obtain ⟨e2, q2, q3, q4, q5, q6⟩ := id hsm
    have e3 : s₂ = ({ (U.calling g mk a).setFrames s₂.frames with heap := s₂.heap, slotsUsed := s₂.slotsUsed } : State).setVm s₂.vm := by
      have : s₂ = ({ s₂ with vm := (U.calling g mk a).vm } : State).setVm s₂.vm := rfl
      rw [e2] at this
      exact this
    have hf₂ : s₂.frames = .throwing q :: .java g :: U.frames.tail := hend
    have hW' : U.WarmedH s₂.vm := hW₂
    have hs₂ : s₂ = ((({ U with heap := s₂.heap, slotsUsed := s₂.slotsUsed } : State).setVm s₂.vm).setTop g).pushFrame (.throwing q) := by
      refine e3.trans ?_
      rw [hf₂, State.calling_eq h.top, State.setFrames_setFrames, State.pushFrame, State.frames_setTop _ hr', State.setTop_of_frames _ hr', State.setFrames_setFrames, hr]
      rfl
    have hsame : U.sameButNew ({ U with heap := s₂.heap, slotsUsed := s₂.slotsUsed } : State) L mc ms := by
      refine ⟨?_, q2, q3, q4, q5, q6⟩
      obtain ⟨t, ht, -⟩ := State.frames_cons hr
      show ({ U with heap := s₂.heap, slotsUsed := s₂.slotsUsed } : State) = { U.setFrames U.frames with heap := s₂.heap, slotsUsed := s₂.slotsUsed }
      rw [State.setFrames_self ht]
    subst hg
    refine Or.inr ⟨q, ⟨(({ U with heap := s₂.heap, slotsUsed := s₂.slotsUsed } : State).setVm s₂.vm), Ls ++ L, c0 + mc, s0 + ms⟩,
      ⟨X.admits, X.cas, X.clock, X.frames, X.room, X.hears, X.method, X.code, (X.here.setHeapUsed s₂.heap s₂.slotsUsed).setVm hW'.alike, X.tail, State.WarmedH.trans X.warmed hW', X.limits, X.bytes, X.same.trans (hsame.setVm s.vm)⟩,
      ⟨g, mk, s₂, L, E, ce, rfl, rfl, hx, hce, hcv, hcl, rfl, hL, rfl, rfl⟩, ?_⟩
    show Steps p.tables e below _ (((({ U with heap := s₂.heap, slotsUsed := s₂.slotsUsed } : State).setVm s₂.vm).setTop g).pushFrame (.throwing q))
    rw [← hs₂]
    exact hsteps
end Payer
section Calls
variable {p : Program} {l : Launch} {e : Env} {R : Room} {s : State} {m : MethodId} {args : Array Value} {below : List Frame} {meth : Method} {c : Code} {T : State} {locs : List Loc} {cells slots : Nat}
theorem vx_callV (X : Stand p l e R s m args below meth c T locs cells slots) (hexec : p.tables.exec = Jvm.exec) {own C : String} {index : Nat} {y : MethodName} {bytes : ByteArray} {maxL : Nat} {ret : Option FieldType}
    (hown : s.vm.findClass own = some m.cls) (hlink : (Cond.methodLink own index y).before args s = true) (hinst : (Cond.instanceMethod y).before args s = true) (hsel : (Cond.selects C y y).before args s = true)
    (hcode : (Cond.code y bytes maxL ret).before args s = true) (hy : y.cls ≠ "java/lang/invoke/MethodHandle" ∧ y.cls ≠ "java/lang/invoke/VarHandle")
    {W9 : Nat} {Pre : Pt → Array Value → Prop} {Post : Pt → Array Value → Option Value → Pt → Prop} {PostX : Pt → Array Value → Addr → Pt → Prop} (hK : vx_Back l R p e below s args y 3 W9 Pre Post PostX)
    {b : Addr} {cellB : Cell} (hcell : T.heap[b]? = some cellB) (hobj : cellB.vm.isStatics = false) (hcls : s.vm.findClass C = some cellB.cls)
    {g : JFrame} (hg : g.method = m) (hsize : g.locals.size = c.maxLocals) {argsL rest : List Value} (hlen : ∀ sig, parseMethodDescriptor y.desc = some sig → argsL.length = sig.parameters.length)
    (hstack : g.stack = argsL.reverse ++ .ref b :: rest) (hW : 2 * g.monitorRoom + (rest.map fun v => v.category).sum ≤ W9) (hdg : decode c.code g.pc = .ok (.invokevirtual index, 3))
    (hpre : ∀ vm₁, s.WarmedH vm₁ → Pre ⟨T.setVm vm₁, locs, cells, slots⟩ (Value.ref b :: argsL).toArray) :
    (∃ (v : Option Value) (vm₁ : Vm) (B : Pt), s.WarmedH vm₁ ∧ Stand p l e R s m args below meth c B.U B.locs B.cells B.slots ∧ Post ⟨T.setVm vm₁, locs, cells, slots⟩ (Value.ref b :: argsL).toArray v B ∧
      ∀ target, Steps p.tables e below (B.U.setTop { g with pc := g.pc + 3, stack := v.toList ++ rest }) target → Steps p.tables e below (T.setTop g) target) ∨
    (∃ (q : Addr) (vm₁ : Vm) (B : Pt), s.WarmedH vm₁ ∧ Stand p l e R s m args below meth c B.U B.locs B.cells B.slots ∧ PostX ⟨T.setVm vm₁, locs, cells, slots⟩ (Value.ref b :: argsL).toArray q B ∧
      Steps p.tables e below (T.setTop g) ((B.U.setTop { g with stack := rest }).pushFrame (.throwing q))) := by
  obtain ⟨mk, methM, hnamed, hmethM, hstM, habM⟩ := Cond.instanceMethod_spec hinst
  obtain ⟨methM', cM, hmethM', -, -, -, -, -, -, hsigM⟩ := Cond.code_spec hnamed hcode
  cases hmethM.symm.trans hmethM'
  obtain ⟨c2, r2, m2, q1, q2, q3, q4, kP, hkP, hkPi⟩ := Cond.selects_spec hsel
  cases hcls.symm.trans q1
  cases (State.methodFound?_of_named hnamed hy).symm.trans q2
  cases hnamed.symm.trans q3
  have hselP : selectMethod e.platform s.vm cellB.cls mk = .method mk := by rw [Launch.admits_selectMethod X.admits]; exact q4
  obtain ⟨vm₁, X₁, hstep₁⟩ := X.invokevirtual hexec hown hlink hnamed hmethM hstM hkP hkPi hy (a := b) (cell := cellB) hcell
    (fun z h => by rw [h] at hobj; cases hobj) hselP hmethM habM hkP hkPi (g := g) hg (argsL := argsL) (rest := rest) (hlen _ hsigM) hstack hdg
  rcases hK m meth c ⟨T.setVm vm₁, locs, cells, slots⟩ { g with stack := rest } (.invokevirtual index) mk (Value.ref b :: argsL).toArray X₁ hg hsize hdg hW (X₁.named hnamed) (hpre vm₁ X₁.warmed) with ⟨v, B, X', hpost, hsteps⟩ | ⟨q, B, X', hpost, hsteps⟩
  · exact Or.inl ⟨v, vm₁, B, X₁.warmed, X', hpost, fun target h => hstep₁ _ fun acts => by rw [doInvoke_state]; exact hsteps.trans h⟩
  · exact Or.inr ⟨q, vm₁, B, X₁.warmed, X', hpost, hstep₁ _ fun acts => by rw [doInvoke_state]; exact hsteps⟩
theorem vx_callS (X : Stand p l e R s m args below meth c T locs cells slots) (hexec : p.tables.exec = Jvm.exec) {own : String} {index : Nat} {y : MethodName} {bytes : ByteArray} {maxL : Nat} {ret : Option FieldType}
    (hown : s.vm.findClass own = some m.cls) (hlink : (Cond.methodLink own index y).before args s = true) (hstat : (Cond.static y).before args s = true) (hinit : (Cond.initialized y.cls).before args s = true)
    (hcode : (Cond.code y bytes maxL ret).before args s = true) (hy : y.cls ≠ "java/lang/invoke/MethodHandle" ∧ y.cls ≠ "java/lang/invoke/VarHandle")
    {W9 : Nat} {Pre : Pt → Array Value → Prop} {Post : Pt → Array Value → Option Value → Pt → Prop} {PostX : Pt → Array Value → Addr → Pt → Prop} (hK : vx_Back l R p e below s args y 3 W9 Pre Post PostX)
    {g : JFrame} (hg : g.method = m) (hsize : g.locals.size = c.maxLocals) {argsL rest : List Value} (hlen : ∀ sig, parseMethodDescriptor y.desc = some sig → argsL.length = sig.parameters.length)
    (hstack : g.stack = argsL.reverse ++ rest) (hW : 2 * g.monitorRoom + (rest.map fun v => v.category).sum ≤ W9) (hdg : decode c.code g.pc = .ok (.invokestatic index, 3))
    (hpre : ∀ vm₁, s.WarmedH vm₁ → Pre ⟨T.setVm vm₁, locs, cells, slots⟩ argsL.toArray) :
    (∃ (v : Option Value) (vm₁ : Vm) (B : Pt), s.WarmedH vm₁ ∧ Stand p l e R s m args below meth c B.U B.locs B.cells B.slots ∧ Post ⟨T.setVm vm₁, locs, cells, slots⟩ argsL.toArray v B ∧
      ∀ target, Steps p.tables e below (B.U.setTop { g with pc := g.pc + 3, stack := v.toList ++ rest }) target → Steps p.tables e below (T.setTop g) target) ∨
    (∃ (q : Addr) (vm₁ : Vm) (B : Pt), s.WarmedH vm₁ ∧ Stand p l e R s m args below meth c B.U B.locs B.cells B.slots ∧ PostX ⟨T.setVm vm₁, locs, cells, slots⟩ argsL.toArray q B ∧
      Steps p.tables e below (T.setTop g) ((B.U.setTop { g with stack := rest }).pushFrame (.throwing q))) := by
  obtain ⟨mk, hnamed⟩ := Cond.code_named hcode
  obtain ⟨methM, cM, hmethM, -, -, -, -, -, -, hsigM⟩ := Cond.code_spec hnamed hcode
  have hstatic : methM.isStatic = true := Cond.static_spec hnamed hmethM hstat
  obtain ⟨kP, hkP, -⟩ := className_of_methodNamed hnamed
  have hinitP : kP.init = .initialized := Cond.initialized_spec (findClass_of_methodNamed hnamed) hkP hinit
  obtain ⟨vm₁, X₁, hstep₁⟩ := X.invokestatic hexec hown hlink hnamed hmethM hstatic hkP hinitP hy (g := g) hg (argsL := argsL) (rest := rest) (hlen _ hsigM) hstack hdg
  rcases hK m meth c ⟨T.setVm vm₁, locs, cells, slots⟩ { g with stack := rest } (.invokestatic index) mk argsL.toArray X₁ hg hsize hdg hW (X₁.named hnamed) (hpre vm₁ X₁.warmed) with ⟨v, B, X', hpost, hsteps⟩ | ⟨q, B, X', hpost, hsteps⟩
  · exact Or.inl ⟨v, vm₁, B, X₁.warmed, X', hpost, fun target h => hstep₁ _ fun acts => by rw [doInvoke_state]; exact hsteps.trans h⟩
  · exact Or.inr ⟨q, vm₁, B, X₁.warmed, X', hpost, hstep₁ _ fun acts => by rw [doInvoke_state]; exact hsteps⟩
end Calls
theorem vx_cls {s : State} {T : State} {vm₁ : Vm} {E : String} {k : ClassId} (hW : s.WarmedH vm₁) (h : (T.setVm vm₁).vm.findClass E = some k) : s.vm.findClass E = some k := by
  have h1 : vm₁.findClass E = some k := h
  rw [hW.alike.findClass] at h1
  exact h1
/-- the method's frame g, with q thrown over it -/
def vx_W (p : Program) (l : Launch) (e : Env) (R : Room) (s : State) (m : MethodId) (args : Array Value) (below : List Frame) (meth : Method) (c : Code) (H : Heap) (locs : List Loc) (cells slots : Nat) (Q : State → Prop) (g : JFrame) (q : Addr) : Prop :=
  ∀ T : State, T.heap = H → Stand p l e R s m args below meth c T locs cells slots → ∃ t, Steps p.tables e below ((T.setTop g).pushFrame (.throwing q)) t ∧ Q t
def vx_Run (p : Program) (l : Launch) (e : Env) (R : Room) (s : State) (m : MethodId) (args : Array Value) (below : List Frame) (meth : Method) (c : Code) (H : Heap) (locs : List Loc) (cells slots mc ms : Nat) (g : JFrame) (rest : List Value) (Qa : State → Outcome → State → Prop) (XC : String → State → State → Prop) (free : Addr → Prop) : Prop :=
  ∀ T : State, T.heap = H → Stand p l e R s m args below meth c T locs cells slots →
    (∃ (v : Option Value) (st₀ t T' : State) (L : List Loc), st₀.heap = H ∧ Stand p l e R s m args below meth c T' (locs ++ L) (cells + mc) (slots + ms) ∧ (∀ q ∈ L, free q.base) ∧ T'.heap = t.heap ∧ T'.vm = t.vm ∧ Qa st₀ (.returned v) t ∧
      Goes p e below T g T' { g with pc := g.pc + 3, stack := v.toList ++ rest }) ∨
    (∃ (q : Addr) (st₀ t T' : State) (L : List Loc) (E : String) (ce : Cell), st₀.heap = H ∧ Stand p l e R s m args below meth c T' (locs ++ L) (cells + mc) (slots + ms) ∧ (∀ z ∈ L, free z.base) ∧ T'.heap = t.heap ∧ T'.vm = t.vm ∧ XC E st₀ t ∧ t.heap[q]? = some ce ∧ ce.vm = .none ∧ s.vm.findClass E = some ce.cls ∧
      Steps p.tables e below (T.setTop g) ((T'.setTop { g with stack := rest }).pushFrame (.throwing q)))
def vx_X {S : Type} (px : S → Prop) (B : String → S → State → Prop) (A : Nat → Prop) : String → State → State → Prop := fun E st t => ∃ u : S, px u ∧ B E u t ∧ va_F A st t
section Runs
variable {p : Program} {l : Launch} {e : Env} {R : Room} {s : State} {m : MethodId} {args : Array Value} {below : List Frame} {meth : Method} {c : Code} {H : Heap} {locs : List Loc} {cells slots : Nat}
variable {y : MethodName} {bytes cc : ByteArray} {maxL nL mc ms n index : Nat} {ret : Option FieldType} {ws : List Cond} {rm : Room} {Pc : Array Value → State → Prop} {Qc : Array Value → State → Outcome → State → Prop} {XC : String → State → State → Prop} {free : Addr → Prop} {Ts : List Cond} {own C : String} {b : Addr} {As rest : List Value} {g : JFrame}
theorem vx_callBack (cb : CallB R s args own index y bytes maxL ret ws rm mc ms n) (hM : vx_Met l y ws rm Pc Qc XC mc ms free) (hbl : FrameBlind Pc) : vx_Back l R p e below s args y 3 8 (PreOf R mc ms Pc) (PostOf Qc mc ms free) (vx_Post XC mc ms free) := by
  obtain ⟨hrc, hrs, hfr, hlo, hws, hcw, -, hini, -⟩ := cb
  exact vx_back (bytes := bytes) (maxL := maxL) (ret := ret) hM hbl hrc hrs hfr hlo hws hcw (fun a' U hW => word_at hW (Or.inl (by first | rfl | simp [Cond.onTables, Cond.keeps, Cond.steady])) hini)
theorem vx_runV (S : CallFix p m c cc nL s args Ts own) (hM : vx_Met l y ws rm Pc Qc XC mc ms free) (cw : CallW R s args own C index y bytes maxL ret ws rm mc ms n) (hp : PreV s H C b Pc As)
    (hg : g.method = m) (hn : As.length = n) (hsize : g.locals.size = nL) (hstack : g.stack = As.reverse ++ .ref b :: rest) (hW : 2 * g.monitorRoom + (rest.map fun v => v.category).sum ≤ 8) (hdg : decode cc g.pc = .ok (.invokevirtual index, 3)) (hf : cells + mc ≤ R.cells ∧ slots + ms ≤ R.slots) :
    vx_Run p l e R s m args below meth c H locs cells slots mc ms g rest (Qc (Value.ref b :: As).toArray) XC free := by
  have hK : vx_Back l R p e below s args y 3 8 (PreOf R mc ms Pc) (PostOf Qc mc ms free) (vx_Post XC mc ms free) := vx_callBack cw.1 hM hp.1
  obtain ⟨⟨-, -, -, -, -, -, hcode, -, hy, hlen, hl⟩, hin, hse⟩ := cw
  obtain ⟨hx, hb, hml, ho, -⟩ := S
  obtain ⟨-, ⟨cellB, hcB, hoB, hclB⟩, hPc⟩ := hp
  intro T hT X
  rcases vx_callV X hx (C := C) (bytes := bytes) (maxL := maxL) (ret := ret) ho hl hin hse hcode hy hK (by rw [hT]; exact hcB) hoB hclB hg (hsize.trans hml.symm) (argsL := As) (rest := rest) (fun sig h => hn.trans (hlen sig h)) hstack hW (by rw [hb]; exact hdg)
    (fun vm₁ hW₁ => ⟨hf.1, hf.2, hPc (T.setVm vm₁) hT hW₁⟩) with ⟨v, vm₁, ⟨U', l2, c2, s2⟩, hW₁, X', ⟨g', mk, t, L, e1, e2, hq, h1, hL, h2, h3⟩, st⟩ | ⟨q, vm₁, ⟨U', l2, c2, s2⟩, hW₁, X', ⟨g', mk, t, L, E, ce, e1, e2, hq, hce, hcv, hcl, h1, hL, h2, h3⟩, st⟩
  · dsimp only [Pt.U, Pt.locs, Pt.cells, Pt.slots] at X' e1 e2 h1 h2 h3 st
    subst h1; subst h2; subst h3
    exact Or.inl ⟨v, (T.setVm vm₁).calling g' mk (Value.ref b :: As).toArray, t, U', L, hT, X', hL, e1, e2, hq, st⟩
  · dsimp only [Pt.U, Pt.locs, Pt.cells, Pt.slots] at X' e1 e2 h1 h2 h3 st hcl
    subst h1; subst h2; subst h3
    exact Or.inr ⟨q, (T.setVm vm₁).calling g' mk (Value.ref b :: As).toArray, t, U', L, E, ce, hT, X', hL, e1, e2, hq, hce, hcv, vx_cls hW₁ hcl, st⟩
theorem vx_runS (S : CallFix p m c cc nL s args Ts own) (hM : vx_Met l y ws rm Pc Qc XC mc ms free) (cw : CallB R s args own index y bytes maxL ret ws rm mc ms n ∧ (Cond.static y).before args s = true) (hp : PreS s H Pc As)
    (hg : g.method = m) (hn : As.length = n) (hsize : g.locals.size = nL) (hstack : g.stack = As.reverse ++ rest) (hW : 2 * g.monitorRoom + (rest.map fun v => v.category).sum ≤ 8) (hdg : decode cc g.pc = .ok (.invokestatic index, 3)) (hf : cells + mc ≤ R.cells ∧ slots + ms ≤ R.slots) :
    vx_Run p l e R s m args below meth c H locs cells slots mc ms g rest (Qc As.toArray) XC free := by
  have hK : vx_Back l R p e below s args y 3 8 (PreOf R mc ms Pc) (PostOf Qc mc ms free) (vx_Post XC mc ms free) := vx_callBack cw.1 hM hp.1
  obtain ⟨⟨-, -, -, -, -, -, hcode, hini, hy, hlen, hl⟩, hstt⟩ := cw
  obtain ⟨hx, hb, hml, ho, -⟩ := S
  intro T hT X
  rcases vx_callS X hx (bytes := bytes) (maxL := maxL) (ret := ret) ho hl hstt hini hcode hy hK hg (hsize.trans hml.symm) (argsL := As) (rest := rest) (fun sig h => hn.trans (hlen sig h)) hstack hW (by rw [hb]; exact hdg)
    (fun vm₁ hW₁ => ⟨hf.1, hf.2, hp.2 (T.setVm vm₁) hT hW₁⟩) with ⟨v, vm₁, ⟨U', l2, c2, s2⟩, hW₁, X', ⟨g', mk, t, L, e1, e2, hq, h1, hL, h2, h3⟩, st⟩ | ⟨q, vm₁, ⟨U', l2, c2, s2⟩, hW₁, X', ⟨g', mk, t, L, E, ce, e1, e2, hq, hce, hcv, hcl, h1, hL, h2, h3⟩, st⟩
  · dsimp only [Pt.U, Pt.locs, Pt.cells, Pt.slots] at X' e1 e2 h1 h2 h3 st
    subst h1; subst h2; subst h3
    exact Or.inl ⟨v, (T.setVm vm₁).calling g' mk As.toArray, t, U', L, hT, X', hL, e1, e2, hq, st⟩
  · dsimp only [Pt.U, Pt.locs, Pt.cells, Pt.slots] at X' e1 e2 h1 h2 h3 st hcl
    subst h1; subst h2; subst h3
    exact Or.inr ⟨q, (T.setVm vm₁).calling g' mk As.toArray, t, U', L, E, ce, hT, X', hL, e1, e2, hq, hce, hcv, vx_cls hW₁ hcl, st⟩
end Runs
section Rows
variable {p : Program} {l : Launch} {e : Env} {R : Room} {s : State} {m : MethodId} {args : Array Value} {below : List Frame} {meth : Method} {c : Code} {H : Heap} {locs : List Loc} {cells slots : Nat} {Q : State → Prop}
variable {mc ms : Nat} {free : Addr → Prop} {A0 A1 : Nat → Prop} {H0 : Heap} {a : Array Value} {pc : Nat} {ls : Array Slot} {st0 rest : List Value}
theorem vx_keep {st₀ t T' : State} {L : List Loc} (h0 : st₀.heap = H) (e1 : T'.heap = t.heap) (hS : va_S A0 H0 H locs) (hA : ∀ q, q < H.size → A1 q → A0 q) (hf : ∀ q, free q → A0 q) (hL : ∀ q ∈ L, free q.base) (hF : va_F A1 st₀ t) :
    H.size ≤ T'.heap.size ∧ (∀ q : Nat, q < H.size → ¬ A1 q → T'.heap[q]? = H[q]?) ∧ va_S A0 H0 T'.heap (locs ++ L) := by
  obtain ⟨hz, hk⟩ := hF
  rw [h0] at hz hk
  exact ⟨by rw [e1]; exact hz, fun q h1 h2 => by rw [e1]; exact hk q h1 h2,
    ⟨Nat.le_trans hS.1 (by rw [e1]; exact hz), fun q h1 h2 => by rw [e1, hk q (Nat.lt_of_lt_of_le h1 hS.1) (fun z => h2 (hA q (Nat.lt_of_lt_of_le h1 hS.1) z))]; exact hS.2.1 q h1 h2, fun q hq => by
      rcases List.mem_append.mp hq with h | h
      · exact hS.2.2 q h
      · exact hf _ (hL q h)⟩⟩
theorem vx_calli {S SX : Type} {post : Int32 → S → Prop} {px : SX → Prop} {B : S → State → Prop} {BX : String → SX → State → Prop} {AX : Nat → Prop} (hr : vx_Run p l e R s m args below meth c H locs cells slots mc ms (F0 m pc ls st0) rest (va_Qi post B A1 a) (vx_X px BX AX) free) (hS : va_S A0 H0 H locs) (hA : ∀ q, q < H.size → A1 q → A0 q) (hf : ∀ q, free q → A0 q) (hAX : ∀ q, q < H.size → AX q → A0 q)
    (kx : ∀ (E : String) (ce : Cell) (q9 : Addr) (u : SX) (t : State) (H1 : Heap) (locs1 : List Loc), t.heap = H1 → s.vm.Alike t.vm → px u → BX E u t → H.size ≤ H1.size → (∀ q : Nat, q < H.size → ¬ AX q → H1[q]? = H[q]?) → va_S A0 H0 H1 locs1 → H1[q9]? = some ce → ce.vm = .none → s.vm.findClass E = some ce.cls → vx_W p l e R s m args below meth c H1 locs1 (cells + mc) (slots + ms) Q (F0 m pc ls rest) q9)
    (kk : ∀ (r : Int32) (u : S) (t : State) (H1 : Heap) (locs1 : List Loc), t.heap = H1 → s.vm.Alike t.vm → post r u → B u t → H.size ≤ H1.size → (∀ q : Nat, q < H.size → ¬ A1 q → H1[q]? = H[q]?) → va_S A0 H0 H1 locs1 → W p l e R s m args below meth c H1 locs1 (cells + mc) (slots + ms) Q (F0 m (pc + 3) ls (.int r :: rest))) : W p l e R s m args below meth c H locs cells slots Q (F0 m pc ls st0) := by
  intro T hT X
  rcases hr T hT X with ⟨v, st₀, t, T', L, h0, X', hL, e1, e2, ⟨⟨r, u, hv, hp, hb⟩, hF⟩, st⟩ | ⟨q, st₀, t, T', L, E, ce, h0, X', hL, e1, e2, ⟨u, hp, hb, hF⟩, hce, hcv, hcl, st⟩
  · cases hv
    obtain ⟨k1, k2, k3⟩ := vx_keep h0 e1 hS hA hf hL hF
    obtain ⟨t2, a1, b1⟩ := kk r u t T'.heap (locs ++ L) e1.symm (by rw [← e2]; exact X'.warmed.alike) hp hb k1 k2 k3 T' rfl X'
    exact ⟨t2, st t2 a1, b1⟩
  · obtain ⟨k1, k2, k3⟩ := vx_keep h0 e1 hS hAX hf hL hF
    obtain ⟨t2, a1, b1⟩ := kx E ce q u t T'.heap (locs ++ L) e1.symm (by rw [← e2]; exact X'.warmed.alike) hp hb k1 k2 k3 (by rw [e1]; exact hce) hcv hcl T' rfl X'
    exact ⟨t2, st.trans a1, b1⟩
theorem vx_calll {S SX : Type} {post : Int64 → S → Prop} {px : SX → Prop} {B : S → State → Prop} {BX : String → SX → State → Prop} {AX : Nat → Prop} (hr : vx_Run p l e R s m args below meth c H locs cells slots mc ms (F0 m pc ls st0) rest (va_Ql post B A1 a) (vx_X px BX AX) free) (hS : va_S A0 H0 H locs) (hA : ∀ q, q < H.size → A1 q → A0 q) (hf : ∀ q, free q → A0 q) (hAX : ∀ q, q < H.size → AX q → A0 q)
    (kx : ∀ (E : String) (ce : Cell) (q9 : Addr) (u : SX) (t : State) (H1 : Heap) (locs1 : List Loc), t.heap = H1 → s.vm.Alike t.vm → px u → BX E u t → H.size ≤ H1.size → (∀ q : Nat, q < H.size → ¬ AX q → H1[q]? = H[q]?) → va_S A0 H0 H1 locs1 → H1[q9]? = some ce → ce.vm = .none → s.vm.findClass E = some ce.cls → vx_W p l e R s m args below meth c H1 locs1 (cells + mc) (slots + ms) Q (F0 m pc ls rest) q9)
    (kk : ∀ (r : Int64) (u : S) (t : State) (H1 : Heap) (locs1 : List Loc), t.heap = H1 → s.vm.Alike t.vm → post r u → B u t → H.size ≤ H1.size → (∀ q : Nat, q < H.size → ¬ A1 q → H1[q]? = H[q]?) → va_S A0 H0 H1 locs1 → W p l e R s m args below meth c H1 locs1 (cells + mc) (slots + ms) Q (F0 m (pc + 3) ls (.long r :: rest))) : W p l e R s m args below meth c H locs cells slots Q (F0 m pc ls st0) := by
  intro T hT X
  rcases hr T hT X with ⟨v, st₀, t, T', L, h0, X', hL, e1, e2, ⟨⟨r, u, hv, hp, hb⟩, hF⟩, st⟩ | ⟨q, st₀, t, T', L, E, ce, h0, X', hL, e1, e2, ⟨u, hp, hb, hF⟩, hce, hcv, hcl, st⟩
  · cases hv
    obtain ⟨k1, k2, k3⟩ := vx_keep h0 e1 hS hA hf hL hF
    obtain ⟨t2, a1, b1⟩ := kk r u t T'.heap (locs ++ L) e1.symm (by rw [← e2]; exact X'.warmed.alike) hp hb k1 k2 k3 T' rfl X'
    exact ⟨t2, st t2 a1, b1⟩
  · obtain ⟨k1, k2, k3⟩ := vx_keep h0 e1 hS hAX hf hL hF
    obtain ⟨t2, a1, b1⟩ := kx E ce q u t T'.heap (locs ++ L) e1.symm (by rw [← e2]; exact X'.warmed.alike) hp hb k1 k2 k3 (by rw [e1]; exact hce) hcv hcl T' rfl X'
    exact ⟨t2, st.trans a1, b1⟩
theorem vx_callf {S SX : Type} {post : UInt32 → S → Prop} {px : SX → Prop} {B : S → State → Prop} {BX : String → SX → State → Prop} {AX : Nat → Prop} (hr : vx_Run p l e R s m args below meth c H locs cells slots mc ms (F0 m pc ls st0) rest (va_Qf post B A1 a) (vx_X px BX AX) free) (hS : va_S A0 H0 H locs) (hA : ∀ q, q < H.size → A1 q → A0 q) (hf : ∀ q, free q → A0 q) (hAX : ∀ q, q < H.size → AX q → A0 q)
    (kx : ∀ (E : String) (ce : Cell) (q9 : Addr) (u : SX) (t : State) (H1 : Heap) (locs1 : List Loc), t.heap = H1 → s.vm.Alike t.vm → px u → BX E u t → H.size ≤ H1.size → (∀ q : Nat, q < H.size → ¬ AX q → H1[q]? = H[q]?) → va_S A0 H0 H1 locs1 → H1[q9]? = some ce → ce.vm = .none → s.vm.findClass E = some ce.cls → vx_W p l e R s m args below meth c H1 locs1 (cells + mc) (slots + ms) Q (F0 m pc ls rest) q9)
    (kk : ∀ (r : UInt32) (u : S) (t : State) (H1 : Heap) (locs1 : List Loc), t.heap = H1 → s.vm.Alike t.vm → post r u → B u t → H.size ≤ H1.size → (∀ q : Nat, q < H.size → ¬ A1 q → H1[q]? = H[q]?) → va_S A0 H0 H1 locs1 → W p l e R s m args below meth c H1 locs1 (cells + mc) (slots + ms) Q (F0 m (pc + 3) ls (.float r :: rest))) : W p l e R s m args below meth c H locs cells slots Q (F0 m pc ls st0) := by
  intro T hT X
  rcases hr T hT X with ⟨v, st₀, t, T', L, h0, X', hL, e1, e2, ⟨⟨r, u, hv, hp, hb⟩, hF⟩, st⟩ | ⟨q, st₀, t, T', L, E, ce, h0, X', hL, e1, e2, ⟨u, hp, hb, hF⟩, hce, hcv, hcl, st⟩
  · cases hv
    obtain ⟨k1, k2, k3⟩ := vx_keep h0 e1 hS hA hf hL hF
    obtain ⟨t2, a1, b1⟩ := kk r u t T'.heap (locs ++ L) e1.symm (by rw [← e2]; exact X'.warmed.alike) hp hb k1 k2 k3 T' rfl X'
    exact ⟨t2, st t2 a1, b1⟩
  · obtain ⟨k1, k2, k3⟩ := vx_keep h0 e1 hS hAX hf hL hF
    obtain ⟨t2, a1, b1⟩ := kx E ce q u t T'.heap (locs ++ L) e1.symm (by rw [← e2]; exact X'.warmed.alike) hp hb k1 k2 k3 (by rw [e1]; exact hce) hcv hcl T' rfl X'
    exact ⟨t2, st.trans a1, b1⟩
theorem vx_calld {S SX : Type} {post : UInt64 → S → Prop} {px : SX → Prop} {B : S → State → Prop} {BX : String → SX → State → Prop} {AX : Nat → Prop} (hr : vx_Run p l e R s m args below meth c H locs cells slots mc ms (F0 m pc ls st0) rest (va_Qd post B A1 a) (vx_X px BX AX) free) (hS : va_S A0 H0 H locs) (hA : ∀ q, q < H.size → A1 q → A0 q) (hf : ∀ q, free q → A0 q) (hAX : ∀ q, q < H.size → AX q → A0 q)
    (kx : ∀ (E : String) (ce : Cell) (q9 : Addr) (u : SX) (t : State) (H1 : Heap) (locs1 : List Loc), t.heap = H1 → s.vm.Alike t.vm → px u → BX E u t → H.size ≤ H1.size → (∀ q : Nat, q < H.size → ¬ AX q → H1[q]? = H[q]?) → va_S A0 H0 H1 locs1 → H1[q9]? = some ce → ce.vm = .none → s.vm.findClass E = some ce.cls → vx_W p l e R s m args below meth c H1 locs1 (cells + mc) (slots + ms) Q (F0 m pc ls rest) q9)
    (kk : ∀ (r : UInt64) (u : S) (t : State) (H1 : Heap) (locs1 : List Loc), t.heap = H1 → s.vm.Alike t.vm → post r u → B u t → H.size ≤ H1.size → (∀ q : Nat, q < H.size → ¬ A1 q → H1[q]? = H[q]?) → va_S A0 H0 H1 locs1 → W p l e R s m args below meth c H1 locs1 (cells + mc) (slots + ms) Q (F0 m (pc + 3) ls (.double r :: rest))) : W p l e R s m args below meth c H locs cells slots Q (F0 m pc ls st0) := by
  intro T hT X
  rcases hr T hT X with ⟨v, st₀, t, T', L, h0, X', hL, e1, e2, ⟨⟨r, u, hv, hp, hb⟩, hF⟩, st⟩ | ⟨q, st₀, t, T', L, E, ce, h0, X', hL, e1, e2, ⟨u, hp, hb, hF⟩, hce, hcv, hcl, st⟩
  · cases hv
    obtain ⟨k1, k2, k3⟩ := vx_keep h0 e1 hS hA hf hL hF
    obtain ⟨t2, a1, b1⟩ := kk r u t T'.heap (locs ++ L) e1.symm (by rw [← e2]; exact X'.warmed.alike) hp hb k1 k2 k3 T' rfl X'
    exact ⟨t2, st t2 a1, b1⟩
  · obtain ⟨k1, k2, k3⟩ := vx_keep h0 e1 hS hAX hf hL hF
    obtain ⟨t2, a1, b1⟩ := kx E ce q u t T'.heap (locs ++ L) e1.symm (by rw [← e2]; exact X'.warmed.alike) hp hb k1 k2 k3 (by rw [e1]; exact hce) hcv hcl T' rfl X'
    exact ⟨t2, st.trans a1, b1⟩
theorem vx_callv {S SX : Type} {post : S → Prop} {px : SX → Prop} {B : S → State → Prop} {BX : String → SX → State → Prop} {AX : Nat → Prop} (hr : vx_Run p l e R s m args below meth c H locs cells slots mc ms (F0 m pc ls st0) rest (va_Qv post B A1 a) (vx_X px BX AX) free) (hS : va_S A0 H0 H locs) (hA : ∀ q, q < H.size → A1 q → A0 q) (hf : ∀ q, free q → A0 q) (hAX : ∀ q, q < H.size → AX q → A0 q)
    (kx : ∀ (E : String) (ce : Cell) (q9 : Addr) (u : SX) (t : State) (H1 : Heap) (locs1 : List Loc), t.heap = H1 → s.vm.Alike t.vm → px u → BX E u t → H.size ≤ H1.size → (∀ q : Nat, q < H.size → ¬ AX q → H1[q]? = H[q]?) → va_S A0 H0 H1 locs1 → H1[q9]? = some ce → ce.vm = .none → s.vm.findClass E = some ce.cls → vx_W p l e R s m args below meth c H1 locs1 (cells + mc) (slots + ms) Q (F0 m pc ls rest) q9)
    (kk : ∀ (u : S) (t : State) (H1 : Heap) (locs1 : List Loc), t.heap = H1 → s.vm.Alike t.vm → post u → B u t → H.size ≤ H1.size → (∀ q : Nat, q < H.size → ¬ A1 q → H1[q]? = H[q]?) → va_S A0 H0 H1 locs1 → W p l e R s m args below meth c H1 locs1 (cells + mc) (slots + ms) Q (F0 m (pc + 3) ls (rest))) : W p l e R s m args below meth c H locs cells slots Q (F0 m pc ls st0) := by
  intro T hT X
  rcases hr T hT X with ⟨v, st₀, t, T', L, h0, X', hL, e1, e2, ⟨⟨u, hv, hp, hb⟩, hF⟩, st⟩ | ⟨q, st₀, t, T', L, E, ce, h0, X', hL, e1, e2, ⟨u, hp, hb, hF⟩, hce, hcv, hcl, st⟩
  · cases hv
    obtain ⟨k1, k2, k3⟩ := vx_keep h0 e1 hS hA hf hL hF
    obtain ⟨t2, a1, b1⟩ := kk u t T'.heap (locs ++ L) e1.symm (by rw [← e2]; exact X'.warmed.alike) hp hb k1 k2 k3 T' rfl X'
    exact ⟨t2, st t2 a1, b1⟩
  · obtain ⟨k1, k2, k3⟩ := vx_keep h0 e1 hS hAX hf hL hF
    obtain ⟨t2, a1, b1⟩ := kx E ce q u t T'.heap (locs ++ L) e1.symm (by rw [← e2]; exact X'.warmed.alike) hp hb k1 k2 k3 (by rw [e1]; exact hce) hcv hcl T' rfl X'
    exact ⟨t2, st.trans a1, b1⟩
/-- caught by the row x of this method's table; the rows ahead don't take it -/
theorem vx_catch {own name : String} {E : String} {ce : Cell} {q : Addr} (hown : s.vm.findClass own = some m.cls) (pre : List ExceptionTableEntry) (x : ExceptionTableEntry) (suf : List ExceptionTableEntry) (hsplit : c.exceptionTable.toList = pre ++ x :: suf)
    (hpass : ∀ z ∈ pre, covers z pc = false ∨ (z.catchType ≠ 0 ∧ ∃ nm : String, (Cond.classLink own z.catchType nm).before args s = true ∧ va_Nc E nm s)) (hx : covers x pc = true) (h0 : x.catchType ≠ 0)
    (hlink : (Cond.classLink own x.catchType name).before args s = true) (hcast : (Cond.castable E name).before args s = true) (hcell : H[q]? = some ce) (hv : ce.vm = .none) (hcl : s.vm.findClass E = some ce.cls)
    (kk : W p l e R s m args below meth c H locs cells slots Q (F0 m x.handlerPc ls [.ref q])) : vx_W p l e R s m args below meth c H locs cells slots Q (F0 m pc ls rest) q := by
  intro T hT X
  have hpl : e.platform.magicAccessors = ({} : Platform).magicAccessors := by rw [X.admits.platform]
  obtain ⟨c3, c4, hc3, hc4, hasg⟩ := Cond.castable_spec hcast
  cases Option.some.inj (hc3.symm.trans hcl)
  obtain ⟨c5, hc5, hcl5⟩ := Cond.classLink_spec hown hlink e.platform hpl
  cases Option.some.inj (hc4.symm.trans hc5)
  obtain ⟨vm', X', st⟩ := X.thenCaughtThrough q (g := F0 m pc ls rest) rfl (Steps.refl _) (by rw [hT]; exact hcell) (by rw [hv]; rfl) (by obtain ⟨k9, h9, -⟩ := Vm.findClass_spec hcl; exact ⟨k9, h9⟩) pre x suf hsplit
    (fun z hz => by
      rcases hpass z hz with h | ⟨hz0, nm, hl1, hn1⟩
      · exact Or.inl h
      · obtain ⟨c6, hc6, hcl6⟩ := Cond.classLink_spec hown hl1 e.platform hpl
        obtain ⟨a8, b8, h1, h2, h3⟩ := hn1
        cases Option.some.inj (h1.symm.trans hcl)
        cases Option.some.inj (h2.symm.trans hc6)
        exact Or.inr ⟨hz0, _, hcl6, h3⟩) hx (Or.inr ⟨h0, c4, hcl5, hasg⟩)
  obtain ⟨t, a1, b1⟩ := kk (T.setVm vm') hT X'
  exact ⟨t, st.trans a1, b1⟩
end Rows
section Ends
variable {p : Program} {l : Launch} {e : Env} {R : Room} {s : State} {m : MethodId} {args : Array Value} {below : List Frame} {meth : Method} {c : Code} {H : Heap} {locs : List Loc} {cells slots : Nat} {Q : State → Prop}
variable {mc ms : Nat} {free : Addr → Prop} {A0 A1 : Nat → Prop} {H0 : Heap} {a : Array Value} {ls : Array Slot} {st0 rest : List Value}
variable {Qc : Array Value → State → Outcome → State → Prop} {XC : String → State → State → Prop}
/-- what a body that may throw owes at its end -/
def vx_MQ (below : List Frame) (Qc : Array Value → State → Outcome → State → Prop) (XC : String → State → State → Prop) (a : Array Value) (s : State) (mc ms : Nat) (free : Addr → Prop) : State → Prop := fun t =>
  ∃ o, t.status = .running ∧ Ended t below o ∧ vx_Q Qc XC mc ms free a s o t
theorem vx_ret {g : JFrame} {mc ms : Nat} (k : W p l e R s m args below meth c H locs cells slots (MQ below Qc args s mc ms free) g) : W p l e R s m args below meth c H locs cells slots (vx_MQ below Qc XC args s mc ms free) g := by
  intro T hT X
  obtain ⟨t, a1, o, b1, b2, b3, b4⟩ := k T hT X
  exact ⟨t, a1, o, b1, b2, Or.inl ⟨b3, b4⟩⟩
/-- not caught here: it goes on to the caller -/
theorem vx_widen {g : JFrame} {q : Addr} {k n : Nat} (h1 : cells ≤ k) (h2 : slots ≤ n) (kk : vx_W p l e R s m args below meth c H locs k n Q g q) : vx_W p l e R s m args below meth c H locs cells slots Q g q := fun T hT X => kk T hT (stand_widen X h1 h2)
theorem vx_out {pc : Nat} {E : String} {ce : Cell} {q : Addr} {mc ms : Nat} (hout : ∀ x ∈ c.exceptionTable.toList, covers x pc = false) (hlocks : meth.locks = false) (hcell : H[q]? = some ce) (hv : ce.vm = .none) (hcl : s.vm.findClass E = some ce.cls)
    (hx : ∀ t : State, t.heap = H → s.vm.Alike t.vm → XC E s t) (hf : ∀ z ∈ locs, free z.base) (hc : cells ≤ mc) (hs : slots ≤ ms) :
    vx_W p l e R s m args below meth c H locs cells slots (vx_MQ below Qc XC args s mc ms free) (F0 m pc ls rest) q := by
  intro T hT X
  obtain ⟨st1, hrun, hend, hW, hsm⟩ := X.leaveThrown q (g := F0 m pc ls rest) rfl rfl rfl hout hlocks
  have hcell9 : (T.setFrames (.throwing q :: below)).heap[q]? = some ce := by
    show T.heap[q]? = some ce
    rw [hT]; exact hcell
  exact ⟨_, st1, .threw q, hrun, hend, Or.inr ⟨q, rfl, E, ce, locs, hx _ hT hW.alike, hcell9, hv, hcl, hW, hsm.mono hc hs, hf⟩⟩
theorem vx_frame {U : State} {k n : Nat} (h : s.sameButNew ({ U with vm := s.vm } : State) locs k n) : s.heap.size ≤ U.heap.size ∧ ∀ q : Nat, q < s.heap.size → (∀ z ∈ locs, z.base ≠ q) → U.heap[q]? = s.heap[q]? := by
  obtain ⟨-, h2, -, -, -, h6⟩ := h
  refine ⟨h2, fun q hq hz => ?_⟩
  obtain ⟨c9, e1, e2, e3, e4⟩ := h6 q _ (Array.getElem?_eq_getElem hq)
  have hs : c9.slots = (s.heap[q]).slots := Array.ext_getElem? fun i => e4 i fun hm => hz _ hm rfl
  have h9 : c9 = s.heap[q] := by
    rw [hs] at e2
    exact e2
  have e5 : U.heap[q]? = some c9 := e1
  rw [e5, h9, Array.getElem?_eq_getElem hq]
/-- the words of a throw but the four that speak of the heap -/
def vx_no (w : Cond) : Bool := decide (w ≠ .isRef (.static Bundle.tN "UNASSIGNED_STACK" Bundle.steD)) && decide (w ≠ .isRef (.static Bundle.tN "SUPPRESSED_SENTINEL" Bundle.listD)) && decide (w ≠ .laysStatic Bundle.tN "UNASSIGNED_STACK" Bundle.steD) && decide (w ≠ .laysStatic Bundle.tN "SUPPRESSED_SENTINEL" Bundle.listD)
def vx_at0 (own : String) (ic : Nat) (X : String) (names : List String) : List Cond := (Bundle.ownAtoms0 own ic X names).filter vx_no
def vx_atS (own : String) (ic : Nat) (X : String) (names : List String) : List Cond := (Bundle.ownAtoms own ic X names).filter vx_no
/-- a word that the tables alone decide, or a good one -/
def vx_ot (w : Cond) : Bool := w.onTables || goodWord w
theorem vx_ot_at {args a' : Array Value} {s U : State} {w : Cond} (hW : s.WarmedH U.vm) (hvm : s.vm = U.vm) (hg : vx_ot w = true) (h : w.before args s = true) : w.before a' U = true := by
  simp only [vx_ot, Bool.or_eq_true] at hg
  rcases hg with hg | hg
  · exact va_tabs hg hvm h
  · exact word_at hW (good_of_word hg) h
/-- a list's words: the good ones out of the method's own list, the others by premises of their own -/
theorem vx_hat {args : Array Value} {s : State} {L B : List Cond} (h1 : ∀ w ∈ L.filter goodWord, w.before args s = true) (h2 : ∀ w ∈ L.filter (fun w => !goodWord w), w ∈ B) (h3 : ∀ w ∈ B, w.before args s = true) : ∀ w ∈ L, w.before args s = true := by
  intro w hw
  by_cases g : goodWord w = true
  · exact h1 w (List.mem_filter.mpr ⟨hw, g⟩)
  · refine h3 w (h2 w (List.mem_filter.mpr ⟨hw, ?_⟩))
    show (!goodWord w) = true
    cases hgw : goodWord w
    · rfl
    · exact absurd hgw g
theorem vx_c {args : Array Value} {s : State} {w : Cond} {B : List Cond} (h : w.before args s = true) (t : ∀ w ∈ B, w.before args s = true) : ∀ w' ∈ w :: B, w'.before args s = true := fun w' h' => (List.mem_cons.mp h').elim (fun e => by rw [e]; exact h) (t w')
theorem vx_n {args : Array Value} {s : State} : ∀ w ∈ ([] : List Cond), w.before args s = true := fun _ h => nomatch h
theorem vx_own {args : Array Value} {s : State} {L : List Cond} (h1 : ∀ w ∈ L.filter vx_no, w.before args s = true)
    (hU : (Cond.isRef (.static Bundle.tN "UNASSIGNED_STACK" Bundle.steD)).before args s = true) (hN : (Cond.isRef (.static Bundle.tN "SUPPRESSED_SENTINEL" Bundle.listD)).before args s = true)
    (lU : (Cond.laysStatic Bundle.tN "UNASSIGNED_STACK" Bundle.steD).before args s = true) (lN : (Cond.laysStatic Bundle.tN "SUPPRESSED_SENTINEL" Bundle.listD).before args s = true) : ∀ w ∈ L, w.before args s = true := by
  intro w hw
  by_cases e1 : w = .isRef (.static Bundle.tN "UNASSIGNED_STACK" Bundle.steD)
  · rw [e1]; exact hU
  · by_cases e2 : w = .isRef (.static Bundle.tN "SUPPRESSED_SENTINEL" Bundle.listD)
    · rw [e2]; exact hN
    · by_cases e3 : w = .laysStatic Bundle.tN "UNASSIGNED_STACK" Bundle.steD
      · rw [e3]; exact lU
      · by_cases e4 : w = .laysStatic Bundle.tN "SUPPRESSED_SENTINEL" Bundle.listD
        · rw [e4]; exact lN
        · exact h1 w (List.mem_filter.mpr ⟨hw, by unfold vx_no; rw [decide_eq_true e1, decide_eq_true e2, decide_eq_true e3, decide_eq_true e4]; rfl⟩)
/-- where a static field lies, its class's statics cell in H -/
def vx_L (C n d : String) (A : Nat → Prop) (U : State) (H : Heap) : Prop := ∃ (c : ClassId) (k : Class) (i : Nat) (f : Field) (a : Nat) (cell : Cell), U.vm.findClass C = some c ∧ U.fieldFound? C n d = some (c, k, i, f) ∧ f.isStatic = true ∧ k.statics = some a ∧ H[a]? = some cell ∧ cell.vm.isStatics = true ∧ cell.cls = c ∧ f.slot < cell.slots.size ∧ k.staticTypes[f.slot]? = some f.type ∧ ¬ A a
theorem vx_L.moved {C n d : String} {A : Nat → Prop} {u U : State} {H : Heap} (hvm : u.vm.Alike U.vm) (h : vx_L C n d A u H) : vx_L C n d A U H := by
  obtain ⟨c, k, i, f, a, cell, h1, h2, h3, h4, h5, h6, h7, h8, h9, h10⟩ := h
  obtain ⟨k', hi', he⟩ := State.fieldFound?_setVm hvm h2
  exact ⟨c, k', i, f, a, cell, by rw [hvm.findClass]; exact h1, hi', h3, by rw [he]; exact h4, h5, h6, h7, h8, by rw [he]; exact h9, h10⟩
theorem vx_L.kept {C n d : String} {A : Nat → Prop} {U : State} {H H1 : Heap} (h : vx_L C n d A U H) (hq : ∀ a : Nat, a < H.size → ¬ A a → H1[a]? = H[a]?) : vx_L C n d A U H1 := by
  obtain ⟨c, k, i, f, a, cell, h1, h2, h3, h4, h5, h6, h7, h8, h9, h10⟩ := h
  exact ⟨c, k, i, f, a, cell, h1, h2, h3, h4, by rw [hq a (Array.getElem?_eq_some_iff.mp h5).1 h10]; exact h5, h6, h7, h8, h9, h10⟩
theorem vx_L.narrow {C n d : String} {A B : Nat → Prop} {U : State} {H : Heap} (h : vx_L C n d A U H) (hAB : ∀ q, B q → A q) : vx_L C n d B U H := by
  obtain ⟨c, k, i, f, a, cell, h1, h2, h3, h4, h5, h6, h7, h8, h9, h10⟩ := h
  exact ⟨c, k, i, f, a, cell, h1, h2, h3, h4, h5, h6, h7, h8, h9, fun z => h10 (hAB _ z)⟩
theorem vx_L.word {C n d : String} {A : Nat → Prop} {s : State} {args : Array Value} (h : vx_L C n d A s s.heap) : (Cond.laysStatic C n d).before args s = true := by
  obtain ⟨c, k, i, f, a, cell, h1, h2, h3, h4, h5, h6, h7, h8, h9, -⟩ := h
  show (Cond.laysStatic C n d).holds args s none s [] = true
  exact Cond.laysStatic_of h1 h2 h3 h4 h5 h6 h7 h8 h9
/-- .. and what it holds: null or some reference -/
def vx_Zq (C n d : String) (A : Nat → Prop) (U : State) (H : Heap) : Prop := va_Zq C n d A U H ∧ vx_L C n d A U H
theorem vx_Zq.moved {C n d : String} {A : Nat → Prop} {u U : State} {H : Heap} (hvm : u.vm.Alike U.vm) (h : vx_Zq C n d A u H) : vx_Zq C n d A U H := ⟨va_Zq.moved hvm h.1, vx_L.moved hvm h.2⟩
theorem vx_Zq.kept {C n d : String} {A : Nat → Prop} {U : State} {H H1 : Heap} (h : vx_Zq C n d A U H) (hq : ∀ a : Nat, a < H.size → ¬ A a → H1[a]? = H[a]?) : vx_Zq C n d A U H1 := ⟨va_Zq.kept h.1 hq, vx_L.kept h.2 hq⟩
theorem vx_Zq.narrow {C n d : String} {A B : Nat → Prop} {U : State} {H : Heap} (h : vx_Zq C n d A U H) (hAB : ∀ q, B q → A q) : vx_Zq C n d B U H := ⟨va_Zq.narrow h.1 hAB, vx_L.narrow h.2 hAB⟩
theorem vx_Zqof {args : Array Value} {s : State} {C n d : String} {A : Nat → Prop} (hl : (Cond.laysStatic C n d).before args s = true) (hini : (Cond.initialized C).before args s = true) (h : (Cond.isRef (.static C n d)).before args s = true) (hA : ∀ a : Nat, a < s.heap.size → ¬ A a) : vx_Zq C n d A s s.heap := by
  refine ⟨va_Zqof hl hini h hA, ?_⟩
  obtain ⟨c, k, i, f, a, cell, h1, h2, h3, h4, h5, h6, h7, h8, h9⟩ := Cond.laysStatic_spec hl
  exact ⟨c, k, i, f, a, cell, h1, h2, h3, h4, h5, h6, h7, h8, h9, hA a (Array.getElem?_eq_some_iff.mp h5).1⟩
theorem vx_isRef {C n d : String} {v : Value} {A : Nat → Prop} {s : State} {args : Array Value} (h : va_Z C n d v A s s.heap) (hv : v.isRef = true) : (Cond.isRef (.static C n d)).before args s = true := by
  obtain ⟨cf, kf, fi, f, a, cell, h1, h2, h3, h4, h5, h6, h7, -⟩ := h
  have he : (Term.static C n d).eval args s none [] s = some v := by
    simp [Term.eval, State.fieldNamed?, h1, h2, h4, h5, h6, h7]
  simp only [Cond.before, Cond.holds, Cond.value, he]
  cases v <;> simp_all [Value.isRef]
theorem vx_isRefq {C n d : String} {A : Nat → Prop} {s : State} {args : Array Value} (h : va_Zq C n d A s s.heap) : (Cond.isRef (.static C n d)).before args s = true := by
  rcases h with h | ⟨t, h⟩
  · exact vx_isRef h rfl
  · exact vx_isRef h rfl
/-- the same frame, seen from here: as if the method were called anew in this heap -/
theorem vx_rebase {T : State} (X : Stand p l e R s m args below meth c T locs cells slots) {R' : Room} (hf : R'.frames ≤ R.frames) (hl : R'.locals ≤ R.locals) (hc : cells + R'.cells ≤ R.cells) (hs : slots + R'.slots ≤ R.slots) :
    Stand p l e R' ((T.setVm s.vm).setFrames (.invoking m args :: below)) m args below meth c T [] 0 0 := by
  have htop : (T.setVm s.vm).topJava?.isSome := X.here.top
  have hF : ((T.setVm s.vm).setFrames (.invoking m args :: below)).frames = .invoking m args :: below := State.frames_setFrames _ (State.cur_lt_of_top htop)
  obtain ⟨g₀, hg0⟩ := Option.isSome_iff_exists.mp htop
  obtain ⟨r, hr⟩ := State.topJava?_eq_some.mp hg0
  have hl9 : e.platform.stackLimits (T.setVm s.vm).me = e.platform.stackLimits s.me := X.limits
  have hb9 : (T.setVm s.vm).me.stackBytes = s.me.stackBytes := X.bytes
  refine ⟨X.admits, X.cas, X.clock, hF, ?_, X.hears, X.method, X.code, X.here, X.tail, X.warmed, ?_, ?_, ?_⟩
  · have h := X.room
    have hU : ((T.setVm s.vm).setFrames (.invoking m args :: below)).localsInUse = s.localsInUse := by
      rw [State.localsInUse_invoking hF (meth := meth) (c := c) X.method X.code, State.localsInUse_invoking X.frames X.method X.code]
    simp only [State.hasRoom, Bool.and_eq_true, decide_eq_true_eq] at h ⊢
    obtain ⟨⟨⟨⟨h1, h2, h3, h4, h5, h6⟩, h7⟩, h8⟩, h9⟩ := h
    rw [X.frames, List.length_cons] at h2 h3
    have q1 := X.heapSize
    have q2 := X.used
    simp only [hF, hU, List.length_cons, State.stackLimits_setFrames, State.stackBytes_setFrames, hl9, hb9]
    refine ⟨⟨⟨⟨by omega, by omega, by omega, by omega, by omega, h6⟩, ?_⟩, ?_⟩, X.book⟩
    · show T.heap.size + R'.cells ≤ e.platform.maxCells
      omega
    · show T.slotsUsed + R'.slots ≤ e.platform.maxSlots
      omega
  · rw [State.stackLimits_setFrames]; rfl
  · rw [State.stackBytes_setFrames]; rfl
  · refine ⟨?_, Nat.le_refl _, Nat.le_refl _, ?_, ?_, fun a c9 h9 => ⟨c9, h9, rfl, rfl, fun _ _ => rfl⟩⟩
    · obtain ⟨t, ht, -⟩ := State.frames_cons hr
      show T.setVm s.vm = { ((T.setVm s.vm).setFrames (.invoking m args :: below)).setFrames (T.setVm s.vm).frames with heap := T.heap, slotsUsed := T.slotsUsed }
      rw [State.setFrames_setFrames, State.setFrames_self ht]
      rfl
    · show T.slotsUsed = T.slotsUsed + ((T.heap.toList.drop T.heap.size).map (·.slots.size)).sum
      rw [List.drop_eq_nil_of_le (Nat.le_of_eq Array.length_toList)]
      rfl
    · show ((T.heap.toList.drop T.heap.size).map (·.slots.size)).sum ≤ 0
      rw [List.drop_eq_nil_of_le (Nat.le_of_eq Array.length_toList)]
      exact Nat.le_refl _
/-- 'throw new E()': new; dup; invokespecial; athrow -/
theorem vx_throw0 {cc : ByteArray} {pc : Nat} (hexec : p.tables.exec = Jvm.exec) (hb : c.code = cc) (hl : l.stackTraces = false) {own cls : String} {names : List String} {ik ic mc ms : Nat} {A : Nat → Prop}
    (hown : s.vm.findClass own = some m.cls) (hcls : Bundle.fit cls = true) (hnames : ∀ n ∈ names, Bundle.fit n = true)
    (hk : (Cond.classLink own ik cls).before args s = true) (hini : (Cond.initialized cls).before args s = true) (hat : ∀ w ∈ vx_at0 own ic cls names, w.before args s = true)
    (hgood : ∀ w ∈ Cond.classLink own ik cls :: Cond.initialized cls :: vx_at0 own ic cls names, vx_ot w = true)
    (hU : vx_Zq Bundle.tN "UNASSIGNED_STACK" Bundle.steD A s s.heap) (hN : vx_Zq Bundle.tN "SUPPRESSED_SENTINEL" Bundle.listD A s s.heap) (hS : va_S A s.heap H locs) (hsize : ls.size = c.maxLocals)
    (d0 : decode cc pc = .ok (.new ik, 3)) (d3 : decode cc (pc + 3) = .ok (.dup, 1)) (d4 : decode cc (pc + 4) = .ok (.invokespecial ic, 3)) (d7 : decode cc (pc + 7) = .ok (.athrow, 1))
    (hout : ∀ x ∈ c.exceptionTable.toList, covers x (pc + 7) = false)
    (hRframes : names.length + 3 < R.frames) (hRlocals : (rest.map fun v => v.category).sum + (13 * (names.length + 1) + 42) ≤ R.locals) (hRcells : cells + 1 ≤ R.cells) (hRslots : slots + 6 ≤ R.slots) (hlocks : meth.locks = false)
    (hx : ∀ t : State, s.vm.Alike t.vm → H.size ≤ t.heap.size → (∀ q : Nat, q < H.size → t.heap[q]? = H[q]?) → XC cls s t)
    (hf : ∀ z ∈ locs, free z.base) (hc : cells + 1 ≤ mc) (hs : slots + 6 ≤ ms) :
    W p l e R s m args below meth c H locs cells slots (vx_MQ below Qc XC args s mc ms free) (F0 m pc ls rest) := by
  intro T hT X
  have htr : e.platform.stackTraces = false := (show e.platform.stackTraces = l.stackTraces by rw [X.admits.platform]).trans hl
  have Y := vx_rebase X (R' := { frames := R.frames, locals := R.locals, cells := 1, slots := 6 }) (Nat.le_refl _) (Nat.le_refl _) hRcells hRslots
  obtain ⟨s', hA⟩ : ∃ z, z = (T.setVm s.vm).setFrames (.invoking m args :: below) := ⟨_, rfl⟩
  rw [← hA] at Y
  have hvm : s'.vm = s.vm := by rw [hA]; rfl
  have hhp : s'.heap = H := by rw [hA]; exact hT
  have hW0 : s.WarmedH s'.vm := by rw [hvm]; exact State.WarmedH.refl s
  have hat' : ∀ w ∈ vx_at0 own ic cls names, w.before args s' = true := fun w hw => vx_ot_at hW0 hvm.symm (hgood w (List.mem_cons_of_mem _ (List.mem_cons_of_mem _ hw))) (hat w hw)
  have hk' : (Cond.classLink own ik cls).before args s' = true := vx_ot_at hW0 hvm.symm (hgood _ List.mem_cons_self) hk
  have hini' : (Cond.initialized cls).before args s' = true := vx_ot_at hW0 hvm.symm (hgood _ (List.mem_cons_of_mem _ List.mem_cons_self)) hini
  have hU' : vx_Zq Bundle.tN "UNASSIGNED_STACK" Bundle.steD A s' s'.heap := by rw [hhp]; exact vx_Zq.moved hW0.alike (hU.kept hS.2.1)
  have hN' : vx_Zq Bundle.tN "SUPPRESSED_SENTINEL" Bundle.listD A s' s'.heap := by rw [hhp]; exact vx_Zq.moved hW0.alike (hN.kept hS.2.1)
  have h : ∀ w ∈ Bundle.ownAtoms0 own ic cls names, w.before args s' = true := vx_own hat' (vx_isRefq hU'.1) (vx_isRefq hN'.1) hU'.2.word hN'.2.word
  have hown' : s'.vm.findClass own = some m.cls := by rw [hvm]; exact hown
  have hins : (Cond.instantiable cls 6).before args s' = true := h _ (by simp [Bundle.ownAtoms0])
  obtain ⟨vm₁, cX, kX, hfX, hkX, -, -, X₁, st1⟩ := Y.newCold hexec (own := own) (C := cls) (index := ik) (n := 6) hown' hk' hins hini'
    (g := F0 m pc ls rest) rfl (by rw [hb]; exact d0) (Nat.le_refl _) (Nat.le_refl _)
  generalize hT1 : (T.setVm vm₁).pushCell { cls := cX, slots := kX.instanceTypes.map defaultValue, vm := .none } = T1 at X₁ st1
  have hcat : (Value.ref T.heap.size).category = 1 := rfl
  have hcellA : T1.heap[T.heap.size]? = some (freshCell cX kX) := by rw [← hT1]; exact State.heap_pushCell_size _ _
  have d3' : decode c.code (pc + 3) = .ok (.dup, 1) := by rw [hb]; exact d3
  obtain ⟨U, hsteps, hrun, hend, hW, hsame, ce, hce, hO⟩ := X₁.ctorThrow0 hexec htr (own := own) (cls := cls) (names := names) (ic := ic) hown' hcls hnames h (fun x hx => nomatch hx) hfX hkX hcellA (by rw [hhp, hT]; exact Nat.le_refl _)
    (g := { method := m, pc := pc + 4, locals := ls, stack := .ref T.heap.size :: .ref T.heap.size :: rest, locked := none }) rfl hsize rfl rfl (rest := rest) rfl
    (by rw [hb]; exact d4) (by rw [hb]; exact d7) hout hRframes (by simp only [List.map_cons, List.sum_cons, hcat]; omega) hlocks
  obtain ⟨f1, f2⟩ := vx_frame hsame
  rw [hhp] at f1 f2
  have hWs : s.WarmedH U.vm := State.WarmedH.trans hW0 hW
  have hcl : s.vm.findClass cls = some ce.cls := by
    have h9 := hO.cls
    rw [hvm] at h9
    exact h9
  have hall : s.sameButNew ({ U with vm := s.vm } : State) locs mc ms := by
    subst hA
    obtain ⟨e1, e2⟩ := hsame
    rw [State.setFrames_setFrames] at e1
    have h2 : (T.setVm s.vm).sameButNew ({ U with vm := s.vm } : State) [] (0 + 1) (0 + 6) := ⟨e1, e2⟩
    have h3 := X.same.trans h2
    rw [List.append_nil] at h3
    exact h3.mono hc hs
  refine ⟨U, ?_, .threw T.heap.size, hrun, hend, Or.inr ⟨T.heap.size, rfl, cls, ce, locs, hx U hWs.alike f1 (fun q hq => f2 q hq (fun z hz => nomatch hz)), hce, hO.vm, hcl, hWs, hall, hf⟩⟩
  refine st1 _ ?_
  show Steps p.tables e below (T1.setTop { method := m, pc := pc + 3, locals := ls, stack := .ref T.heap.size :: rest, locked := none }) _
  jvm_step X₁.here [X₁.here.top, hexec, d3', Value.category]
  exact hsteps
/-- 'throw new E("text")': new; dup; ldc; invokespecial; athrow -/
theorem vx_throwS {cc : ByteArray} {pc : Nat} (hexec : p.tables.exec = Jvm.exec) (hb : c.code = cc) (hl : l.stackTraces = false) {own cls text : String} {names : List String} {ik is ic mc ms sa : Nat} {A : Nat → Prop}
    (hown : s.vm.findClass own = some m.cls) (hcls : Bundle.fit cls = true) (hnames : ∀ n ∈ names, Bundle.fit n = true)
    (hk : (Cond.classLink own ik cls).before args s = true) (hini : (Cond.initialized cls).before args s = true) (hstr : vk_R own is text sa s) (hat : ∀ w ∈ vx_atS own ic cls names, w.before args s = true)
    (hgood : ∀ w ∈ Cond.classLink own ik cls :: Cond.initialized cls :: vx_atS own ic cls names, vx_ot w = true)
    (hU : vx_Zq Bundle.tN "UNASSIGNED_STACK" Bundle.steD A s s.heap) (hN : vx_Zq Bundle.tN "SUPPRESSED_SENTINEL" Bundle.listD A s s.heap) (hS : va_S A s.heap H locs) (hsize : ls.size = c.maxLocals)
    (d0 : decode cc pc = .ok (.new ik, 3)) (d3 : decode cc (pc + 3) = .ok (.dup, 1)) (d4 : decode cc (pc + 4) = .ok (.ldc is, 2)) (d6 : decode cc (pc + 6) = .ok (.invokespecial ic, 3)) (d9 : decode cc (pc + 9) = .ok (.athrow, 1))
    (hout : ∀ x ∈ c.exceptionTable.toList, covers x (pc + 9) = false)
    (hRframes : names.length + 3 < R.frames) (hRlocals : (rest.map fun v => v.category).sum + (13 * (names.length + 1) + 43) ≤ R.locals) (hRcells : cells + 1 ≤ R.cells) (hRslots : slots + 6 ≤ R.slots) (hlocks : meth.locks = false)
    (hx : ∀ t : State, s.vm.Alike t.vm → H.size ≤ t.heap.size → (∀ q : Nat, q < H.size → t.heap[q]? = H[q]?) → XC cls s t)
    (hf : ∀ z ∈ locs, free z.base) (hc : cells + 1 ≤ mc) (hs : slots + 6 ≤ ms) :
    W p l e R s m args below meth c H locs cells slots (vx_MQ below Qc XC args s mc ms free) (F0 m pc ls rest) := by
  intro T hT X
  have htr : e.platform.stackTraces = false := (show e.platform.stackTraces = l.stackTraces by rw [X.admits.platform]).trans hl
  have Y := vx_rebase X (R' := { frames := R.frames, locals := R.locals, cells := 1, slots := 6 }) (Nat.le_refl _) (Nat.le_refl _) hRcells hRslots
  obtain ⟨s', hA⟩ : ∃ z, z = (T.setVm s.vm).setFrames (.invoking m args :: below) := ⟨_, rfl⟩
  rw [← hA] at Y
  have hvm : s'.vm = s.vm := by rw [hA]; rfl
  have hhp : s'.heap = H := by rw [hA]; exact hT
  have hW0 : s.WarmedH s'.vm := by rw [hvm]; exact State.WarmedH.refl s
  have hat' : ∀ w ∈ vx_atS own ic cls names, w.before args s' = true := fun w hw => vx_ot_at hW0 hvm.symm (hgood w (List.mem_cons_of_mem _ (List.mem_cons_of_mem _ hw))) (hat w hw)
  have hk' : (Cond.classLink own ik cls).before args s' = true := vx_ot_at hW0 hvm.symm (hgood _ List.mem_cons_self) hk
  have hini' : (Cond.initialized cls).before args s' = true := vx_ot_at hW0 hvm.symm (hgood _ (List.mem_cons_of_mem _ List.mem_cons_self)) hini
  have hU' : vx_Zq Bundle.tN "UNASSIGNED_STACK" Bundle.steD A s' s'.heap := by rw [hhp]; exact vx_Zq.moved hW0.alike (hU.kept hS.2.1)
  have hN' : vx_Zq Bundle.tN "SUPPRESSED_SENTINEL" Bundle.listD A s' s'.heap := by rw [hhp]; exact vx_Zq.moved hW0.alike (hN.kept hS.2.1)
  have h : ∀ w ∈ Bundle.ownAtoms own ic cls names, w.before args s' = true := vx_own hat' (vx_isRefq hU'.1) (vx_isRefq hN'.1) hU'.2.word hN'.2.word
  have hown' : s'.vm.findClass own = some m.cls := by rw [hvm]; exact hown
  have hins : (Cond.instantiable cls 6).before args s' = true := h _ (by simp [Bundle.ownAtoms])
  obtain ⟨vm₁, cX, kX, hfX, hkX, -, -, X₁, st1⟩ := Y.newCold hexec (own := own) (C := cls) (index := ik) (n := 6) hown' hk' hins hini'
    (g := F0 m pc ls rest) rfl (by rw [hb]; exact d0) (Nat.le_refl _) (Nat.le_refl _)
  generalize hT1 : (T.setVm vm₁).pushCell { cls := cX, slots := kX.instanceTypes.map defaultValue, vm := .none } = T1 at X₁ st1
  have hcat : (Value.ref T.heap.size).category = 1 := rfl
  have hcellA : T1.heap[T.heap.size]? = some (freshCell cX kX) := by rw [← hT1]; exact State.heap_pushCell_size _ _
  have d3' : decode c.code (pc + 3) = .ok (.dup, 1) := by rw [hb]; exact d3
  have d4' : decode c.code (pc + 4) = .ok (.ldc is, 2) := by rw [hb]; exact d4
  have hstr' : vk_R own is text sa s' := vk_R.warm hW0 hstr
  obtain ⟨U, hsteps, hrun, hend, hW, hsame, ce, hce, hO⟩ := X₁.ctorThrowS hexec htr (own := own) (cls := cls) (names := names) (ic := ic) hown' hcls hnames h (fun x hx => nomatch hx) hfX hkX hcellA (by rw [hhp, hT]; exact Nat.le_refl _) (msg := .ref sa) rfl
    (g := { method := m, pc := pc + 6, locals := ls, stack := .ref sa :: .ref T.heap.size :: .ref T.heap.size :: rest, locked := none }) rfl hsize rfl rfl (rest := rest) rfl
    (by rw [hb]; exact d6) (by rw [hb]; exact d9) hout hRframes (by simp only [List.map_cons, List.sum_cons, hcat]; omega) hlocks
  obtain ⟨f1, f2⟩ := vx_frame hsame
  rw [hhp] at f1 f2
  have hWs : s.WarmedH U.vm := State.WarmedH.trans hW0 hW
  have hcl : s.vm.findClass cls = some ce.cls := by
    have h9 := hO.cls
    rw [hvm] at h9
    exact h9
  have hall : s.sameButNew ({ U with vm := s.vm } : State) locs mc ms := by
    subst hA
    obtain ⟨e1, e2⟩ := hsame
    rw [State.setFrames_setFrames] at e1
    have h2 : (T.setVm s.vm).sameButNew ({ U with vm := s.vm } : State) [] (0 + 1) (0 + 6) := ⟨e1, e2⟩
    have h3 := X.same.trans h2
    rw [List.append_nil] at h3
    exact h3.mono hc hs
  refine ⟨U, ?_, .threw T.heap.size, hrun, hend, Or.inr ⟨T.heap.size, rfl, cls, ce, locs, hx U hWs.alike f1 (fun q hq => f2 q hq (fun z hz => nomatch hz)), hce, hO.vm, hcl, hWs, hall, hf⟩⟩
  refine st1 _ ?_
  show Steps p.tables e below (T1.setTop { method := m, pc := pc + 3, locals := ls, stack := .ref T.heap.size :: rest, locked := none }) _
  jvm_step X₁.here [X₁.here.top, hexec, d3', Value.category]
  exact X₁.ldcString hexec (own := own) (text := text) (index := is) (a := sa) hown' hstr'.1 hstr'.2
    (g := { method := m, pc := pc + 4, locals := ls, stack := .ref T.heap.size :: .ref T.heap.size :: rest, locked := none }) rfl d4' _ hsteps
/-- 'throw new E("text")', the text by a wide index -/
theorem vx_throwSW {cc : ByteArray} {pc : Nat} (hexec : p.tables.exec = Jvm.exec) (hb : c.code = cc) (hl : l.stackTraces = false) {own cls text : String} {names : List String} {ik is ic mc ms sa : Nat} {A : Nat → Prop}
    (hown : s.vm.findClass own = some m.cls) (hcls : Bundle.fit cls = true) (hnames : ∀ n ∈ names, Bundle.fit n = true)
    (hk : (Cond.classLink own ik cls).before args s = true) (hini : (Cond.initialized cls).before args s = true) (hstr : vk_R own is text sa s) (hat : ∀ w ∈ vx_atS own ic cls names, w.before args s = true)
    (hgood : ∀ w ∈ Cond.classLink own ik cls :: Cond.initialized cls :: vx_atS own ic cls names, vx_ot w = true)
    (hU : vx_Zq Bundle.tN "UNASSIGNED_STACK" Bundle.steD A s s.heap) (hN : vx_Zq Bundle.tN "SUPPRESSED_SENTINEL" Bundle.listD A s s.heap) (hS : va_S A s.heap H locs) (hsize : ls.size = c.maxLocals)
    (d0 : decode cc pc = .ok (.new ik, 3)) (d3 : decode cc (pc + 3) = .ok (.dup, 1)) (d4 : decode cc (pc + 4) = .ok (.ldc_w is, 3)) (d7 : decode cc (pc + 7) = .ok (.invokespecial ic, 3)) (d10 : decode cc (pc + 10) = .ok (.athrow, 1))
    (hout : ∀ x ∈ c.exceptionTable.toList, covers x (pc + 10) = false)
    (hRframes : names.length + 3 < R.frames) (hRlocals : (rest.map fun v => v.category).sum + (13 * (names.length + 1) + 43) ≤ R.locals) (hRcells : cells + 1 ≤ R.cells) (hRslots : slots + 6 ≤ R.slots) (hlocks : meth.locks = false)
    (hx : ∀ t : State, s.vm.Alike t.vm → H.size ≤ t.heap.size → (∀ q : Nat, q < H.size → t.heap[q]? = H[q]?) → XC cls s t)
    (hf : ∀ z ∈ locs, free z.base) (hc : cells + 1 ≤ mc) (hs : slots + 6 ≤ ms) :
    W p l e R s m args below meth c H locs cells slots (vx_MQ below Qc XC args s mc ms free) (F0 m pc ls rest) := by
  intro T hT X
  have htr : e.platform.stackTraces = false := (show e.platform.stackTraces = l.stackTraces by rw [X.admits.platform]).trans hl
  have Y := vx_rebase X (R' := { frames := R.frames, locals := R.locals, cells := 1, slots := 6 }) (Nat.le_refl _) (Nat.le_refl _) hRcells hRslots
  obtain ⟨s', hA⟩ : ∃ z, z = (T.setVm s.vm).setFrames (.invoking m args :: below) := ⟨_, rfl⟩
  rw [← hA] at Y
  have hvm : s'.vm = s.vm := by rw [hA]; rfl
  have hhp : s'.heap = H := by rw [hA]; exact hT
  have hW0 : s.WarmedH s'.vm := by rw [hvm]; exact State.WarmedH.refl s
  have hat' : ∀ w ∈ vx_atS own ic cls names, w.before args s' = true := fun w hw => vx_ot_at hW0 hvm.symm (hgood w (List.mem_cons_of_mem _ (List.mem_cons_of_mem _ hw))) (hat w hw)
  have hk' : (Cond.classLink own ik cls).before args s' = true := vx_ot_at hW0 hvm.symm (hgood _ List.mem_cons_self) hk
  have hini' : (Cond.initialized cls).before args s' = true := vx_ot_at hW0 hvm.symm (hgood _ (List.mem_cons_of_mem _ List.mem_cons_self)) hini
  have hU' : vx_Zq Bundle.tN "UNASSIGNED_STACK" Bundle.steD A s' s'.heap := by rw [hhp]; exact vx_Zq.moved hW0.alike (hU.kept hS.2.1)
  have hN' : vx_Zq Bundle.tN "SUPPRESSED_SENTINEL" Bundle.listD A s' s'.heap := by rw [hhp]; exact vx_Zq.moved hW0.alike (hN.kept hS.2.1)
  have h : ∀ w ∈ Bundle.ownAtoms own ic cls names, w.before args s' = true := vx_own hat' (vx_isRefq hU'.1) (vx_isRefq hN'.1) hU'.2.word hN'.2.word
  have hown' : s'.vm.findClass own = some m.cls := by rw [hvm]; exact hown
  have hins : (Cond.instantiable cls 6).before args s' = true := h _ (by simp [Bundle.ownAtoms])
  obtain ⟨vm₁, cX, kX, hfX, hkX, -, -, X₁, st1⟩ := Y.newCold hexec (own := own) (C := cls) (index := ik) (n := 6) hown' hk' hins hini'
    (g := F0 m pc ls rest) rfl (by rw [hb]; exact d0) (Nat.le_refl _) (Nat.le_refl _)
  generalize hT1 : (T.setVm vm₁).pushCell { cls := cX, slots := kX.instanceTypes.map defaultValue, vm := .none } = T1 at X₁ st1
  have hcat : (Value.ref T.heap.size).category = 1 := rfl
  have hcellA : T1.heap[T.heap.size]? = some (freshCell cX kX) := by rw [← hT1]; exact State.heap_pushCell_size _ _
  have d3' : decode c.code (pc + 3) = .ok (.dup, 1) := by rw [hb]; exact d3
  have d4' : decode c.code (pc + 4) = .ok (.ldc_w is, 3) := by rw [hb]; exact d4
  have hstr' : vk_R own is text sa s' := vk_R.warm hW0 hstr
  obtain ⟨U, hsteps, hrun, hend, hW, hsame, ce, hce, hO⟩ := X₁.ctorThrowS hexec htr (own := own) (cls := cls) (names := names) (ic := ic) hown' hcls hnames h (fun x hx => nomatch hx) hfX hkX hcellA (by rw [hhp, hT]; exact Nat.le_refl _) (msg := .ref sa) rfl
    (g := { method := m, pc := pc + 7, locals := ls, stack := .ref sa :: .ref T.heap.size :: .ref T.heap.size :: rest, locked := none }) rfl hsize rfl rfl (rest := rest) rfl
    (by rw [hb]; exact d7) (by rw [hb]; exact d10) hout hRframes (by simp only [List.map_cons, List.sum_cons, hcat]; omega) hlocks
  obtain ⟨f1, f2⟩ := vx_frame hsame
  rw [hhp] at f1 f2
  have hWs : s.WarmedH U.vm := State.WarmedH.trans hW0 hW
  have hcl : s.vm.findClass cls = some ce.cls := by
    have h9 := hO.cls
    rw [hvm] at h9
    exact h9
  have hall : s.sameButNew ({ U with vm := s.vm } : State) locs mc ms := by
    subst hA
    obtain ⟨e1, e2⟩ := hsame
    rw [State.setFrames_setFrames] at e1
    have h2 : (T.setVm s.vm).sameButNew ({ U with vm := s.vm } : State) [] (0 + 1) (0 + 6) := ⟨e1, e2⟩
    have h3 := X.same.trans h2
    rw [List.append_nil] at h3
    exact h3.mono hc hs
  refine ⟨U, ?_, .threw T.heap.size, hrun, hend, Or.inr ⟨T.heap.size, rfl, cls, ce, locs, hx U hWs.alike f1 (fun q hq => f2 q hq (fun z hz => nomatch hz)), hce, hO.vm, hcl, hWs, hall, hf⟩⟩
  refine st1 _ ?_
  show Steps p.tables e below (T1.setTop { method := m, pc := pc + 3, locals := ls, stack := .ref T.heap.size :: rest, locked := none }) _
  jvm_step X₁.here [X₁.here.top, hexec, d3', Value.category]
  exact X₁.ldcStringW hexec (own := own) (text := text) (index := is) (a := sa) hown' hstr'.1 hstr'.2
    (g := { method := m, pc := pc + 4, locals := ls, stack := .ref T.heap.size :: .ref T.heap.size :: rest, locked := none }) rfl d4' _ hsteps
end Ends
section Bodies
variable {l : Launch}
theorem vx_ofW {y : MethodName} {ws ws' : List Cond} {rm : Room} {Pc : Array Value → State → Prop} {Qc : Array Value → State → Outcome → State → Prop} {XC : String → State → State → Prop} {mc ms : Nat} {free : Addr → Prop} {cc : ByteArray} {maxL : Nat} {ret : Option FieldType}
    (hy : plainName y.cls = true) (hw : ws = Cond.code y cc maxL ret :: ws')
    (body : ∀ p e s m args below meth c s₁, BodyLoose p l y (headSpec ws rm) cc maxL ret e s m args below meth c s₁ → c.maxLocals = maxL → (∀ x ∈ c.exceptionTable.toList, False) → Pc args s →
      W p l e (headSpec ws rm).room s m args below meth c s.heap [] 0 0 (vx_MQ below Qc XC args s mc ms free) (entryFrame m args maxL)) : vx_Met l y ws rm Pc Qc XC mc ms free := by
  refine MetFree.of_bodyS (code := cc) (maxLocals := maxL) (ret := ret) hy ?_ ?_
  · intro args s m h hn
    obtain ⟨meth, c, h1, h2, h3, h4, h5, h6, -, -⟩ := Cond.code_spec hn (atoms_spec (ws := ws) h _ (by rw [hw]; exact List.mem_cons_self))
    exact ⟨meth, c, h1, h2, h3, h4, h5, h6⟩
  · intro p e s m args below meth c s₁ B hml hP _
    have hh0 : s₁.heap = s.heap := by rw [B.state]; rfl
    have ht : ∀ x ∈ c.exceptionTable.toList, False := by
      obtain ⟨meth9, c9, h1, h2, -, -, -, -, h7, -⟩ := Cond.code_spec B.named (atoms_spec (ws := ws) B.pre _ (by rw [hw]; exact List.mem_cons_self))
      cases Option.some.inj (h1.symm.trans B.method)
      cases Option.some.inj (h2.symm.trans (Stand.of_body B).code)
      intro x hx
      rw [Array.isEmpty_iff.mp h7] at hx
      cases hx
    obtain ⟨t, a1, o, b1, b2, b3⟩ := body p e s m args below meth c s₁ B hml ht hP s₁ hh0 (Stand.of_body B)
    exact ⟨t, o, a1, b1, b2, b3⟩
/-- the table of a body with handlers -/
theorem vx_table {p : Program} {x y : MethodName} {S : Spec} {cc bytes : ByteArray} {maxL maxL' : Nat} {ret ret' : Option FieldType} {e : Env} {s s₁ : State} {m : MethodId} {args : Array Value} {below : List Frame} {meth : Method} {c : Code} {hh : List (Nat × Nat × Nat × Nat)}
    (B : BodyLoose p l y S cc maxL ret e s m args below meth c s₁) (h : (Cond.codeWith y bytes maxL' ret' hh).before args s = true) : c.exceptionTable.toList = tableOf hh := by
  obtain ⟨m9, meth9, c9, hn9, h1, h2, -, -, h6, -⟩ := Cond.codeWith_spec h
  cases Option.some.inj (hn9.symm.trans B.named)
  cases Option.some.inj (h1.symm.trans B.method)
  cases Option.some.inj (h2.symm.trans (Stand.of_body B).code)
  rw [← h6, table_eq]
end Bodies
end VXA
/-! ===== END ===== -/
/-! ===== BEGIN a static call of a method with an exception table ===== -/
section VXS
variable {p : Program} {l : Launch} {e : Env} {R : Room} {s : State} {m : MethodId} {args : Array Value} {below : List Frame} {meth : Method} {c : Code} {T : State} {H : Heap} {locs : List Loc} {cells slots : Nat}
abbrev vx_CSW (R : Room) (s : State) (args : Array Value) (own : String) (index : Nat) (y : MethodName) (bytes : ByteArray) (maxL : Nat) (ret : Option FieldType) (hh : List (Nat × Nat × Nat × Nat)) (ws : List Cond) (rm : Room) (mc ms n : Nat) : Prop :=
  (rm.cells = mc ∧ rm.slots = ms ∧ rm.frames + 1 ≤ R.frames ∧ 8 + (maxL + 11) + rm.locals ≤ R.locals ∧ (∀ w ∈ ws, ∀ (a' : Array Value) (U : State), s.WarmedH U.vm → w.before a' U = true) ∧ Cond.codeWith y bytes maxL ret hh ∈ ws) ∧
  (Cond.codeWith y bytes maxL ret hh).before args s = true ∧ (Cond.initialized y.cls).before args s = true ∧ (y.cls ≠ "java/lang/invoke/MethodHandle" ∧ y.cls ≠ "java/lang/invoke/VarHandle") ∧
  (∀ sig, parseMethodDescriptor y.desc = some sig → n = sig.parameters.length) ∧ (Cond.methodLink own index y).before args s = true ∧ (Cond.static y).before args s = true
theorem vx_cwSW {own : String} {index maxL mc ms : Nat} {y : MethodName} {bytes : ByteArray} {ret : Option FieldType} {hh : List (Nat × Nat × Nat × Nat)} {Ts ws ws' : List Cond} {rm : Room} (n : Nat) (ht : ∀ w ∈ Ts, w.before args s = true) (hT : GoodIn Ts (va_wsS own index y ws)) (hw : ws = Cond.codeWith y bytes maxL ret hh :: ws') (hrc : rm.cells = mc) (hrs : rm.slots = ms)
    (hd : y.cls ≠ "java/lang/invoke/MethodHandle" ∧ y.cls ≠ "java/lang/invoke/VarHandle" ∧ (parseMethodDescriptor y.desc).map (fun d => d.parameters.length) = some n) (hR : rm.frames + 1 ≤ R.frames ∧ 8 + (maxL + 11) + rm.locals ≤ R.locals) :
    vx_CSW R s args own index y bytes maxL ret hh ws rm mc ms n := by
  have ok : ∀ w ∈ va_wsS own index y ws, w.before args s = true := fun w h => ht w (hT w h).1
  have hG : GoodIn Ts ws := fun w h => hT w (by unfold va_wsS; exact List.mem_append_right _ h)
  have hc : Cond.codeWith y bytes maxL ret hh ∈ ws := by rw [hw]; exact List.mem_cons_self
  refine ⟨⟨hrc, hrs, hR.1, hR.2, pay_in ht hG, hc⟩, ht _ (hG _ hc).1, ok _ (by simp [va_wsS]), ⟨hd.1, hd.2.1⟩, fun sig h => ?_, ok _ (by simp [va_wsS]), ok _ (by simp [va_wsS])⟩
  have h2 := hd.2.2
  rw [h] at h2
  exact (Option.some.inj h2).symm
theorem vx_callSW (X : Stand p l e R s m args below meth c T locs cells slots) (hexec : p.tables.exec = Jvm.exec) {own : String} {index : Nat} {y : MethodName} {bytes : ByteArray} {maxL : Nat} {ret : Option FieldType} {hh : List (Nat × Nat × Nat × Nat)}
    (hown : s.vm.findClass own = some m.cls) (hlink : (Cond.methodLink own index y).before args s = true) (hstat : (Cond.static y).before args s = true) (hinit : (Cond.initialized y.cls).before args s = true)
    (hcode : (Cond.codeWith y bytes maxL ret hh).before args s = true) (hy : y.cls ≠ "java/lang/invoke/MethodHandle" ∧ y.cls ≠ "java/lang/invoke/VarHandle")
    {W9 : Nat} {Pre : Pt → Array Value → Prop} {Post : Pt → Array Value → Option Value → Pt → Prop} (hK : Back l R p e below s args y 3 W9 Pre Post)
    {g : JFrame} (hg : g.method = m) (hsize : g.locals.size = c.maxLocals) {argsL rest : List Value} (hlen : ∀ sig, parseMethodDescriptor y.desc = some sig → argsL.length = sig.parameters.length)
    (hstack : g.stack = argsL.reverse ++ rest) (hW : 2 * g.monitorRoom + (rest.map fun v => v.category).sum ≤ W9) (hdg : decode c.code g.pc = .ok (.invokestatic index, 3))
    (hpre : ∀ vm₁, s.WarmedH vm₁ → Pre ⟨T.setVm vm₁, locs, cells, slots⟩ argsL.toArray) :
    ∃ (v : Option Value) (vm₁ : Vm) (B : Pt), s.WarmedH vm₁ ∧ Stand p l e R s m args below meth c B.U B.locs B.cells B.slots ∧ Post ⟨T.setVm vm₁, locs, cells, slots⟩ argsL.toArray v B ∧
      ∀ target, Steps p.tables e below (B.U.setTop { g with pc := g.pc + 3, stack := v.toList ++ rest }) target → Steps p.tables e below (T.setTop g) target := by
  obtain ⟨mk, methM, cM, hnamed, hmethM, -, -, -, -, -, -, hsigM⟩ := Cond.codeWith_spec hcode
  have hstatic : methM.isStatic = true := Cond.static_spec hnamed hmethM hstat
  obtain ⟨kP, hkP, -⟩ := className_of_methodNamed hnamed
  have hinitP : kP.init = .initialized := Cond.initialized_spec (findClass_of_methodNamed hnamed) hkP hinit
  obtain ⟨vm₁, X₁, hstep₁⟩ := X.invokestatic hexec hown hlink hnamed hmethM hstatic hkP hinitP hy (g := g) hg (argsL := argsL) (rest := rest) (hlen _ hsigM) hstack hdg
  obtain ⟨v, B, X', hpost, hsteps⟩ := hK m meth c ⟨T.setVm vm₁, locs, cells, slots⟩ { g with stack := rest } (.invokestatic index) mk argsL.toArray X₁ hg hsize hdg hW (X₁.named hnamed) (hpre vm₁ X₁.warmed)
  exact ⟨v, vm₁, B, X₁.warmed, X', hpost, fun target h => hstep₁ _ fun acts => by rw [doInvoke_state]; exact hsteps.trans h⟩
theorem vx_runSW {y : MethodName} {bytes cc : ByteArray} {maxL nL mc ms n index : Nat} {ret : Option FieldType} {hh : List (Nat × Nat × Nat × Nat)} {ws : List Cond} {rm : Room} {Pc : Array Value → State → Prop} {Qc : Array Value → State → Outcome → State → Prop} {free : Addr → Prop} {Ts : List Cond} {own : String} {As rest : List Value} {g : JFrame}
    (S : CallFix p m c cc nL s args Ts own) (hM : Met l y ws rm Pc Qc mc ms free) (cw : vx_CSW R s args own index y bytes maxL ret hh ws rm mc ms n) (hp : PreS s H Pc As)
    (hg : g.method = m) (hn : As.length = n) (hsize : g.locals.size = nL) (hstack : g.stack = As.reverse ++ rest) (hW : 2 * g.monitorRoom + (rest.map fun v => v.category).sum ≤ 8) (hdg : decode cc g.pc = .ok (.invokestatic index, 3)) (hf : cells + mc ≤ R.cells ∧ slots + ms ≤ R.slots) :
    va_Run p l e R s m args below meth c H locs cells slots mc ms g rest (Qc As.toArray) (free) := by
  obtain ⟨⟨hrc, hrs, hfr, hlo, hws, hcw⟩, hcode, hini, hy, hlen, hl, hstt⟩ := cw
  have hK : Back l R p e below s args y 3 8 (PreOf R mc ms Pc) (PostOf Qc mc ms free) := va_backW (hh := hh) (bytes := bytes) (maxL := maxL) (ret := ret) hM hp.1 hrc hrs hfr hlo hws hcw (fun a' U hW => word_at hW (Or.inl (by first | rfl | simp [Cond.onTables, Cond.keeps, Cond.steady])) hini)
  obtain ⟨hx, hb, hml, ho, -⟩ := S
  intro T hT X
  obtain ⟨v, vm₁, ⟨U', l2, c2, s2⟩, hW₁, X', ⟨g', mk, t, L, e1, e2, hq, h1, hL, h2, h3⟩, st⟩ := vx_callSW X hx (hh := hh) (bytes := bytes) (maxL := maxL) (ret := ret) ho hl hstt hini hcode hy hK hg (hsize.trans hml.symm) (argsL := As) (rest := rest) (fun sig h => hn.trans (hlen sig h)) hstack hW (by rw [hb]; exact hdg)
    (fun vm₁ hW₁ => ⟨hf.1, hf.2, hp.2 (T.setVm vm₁) hT hW₁⟩)
  dsimp only [Pt.U, Pt.locs, Pt.cells, Pt.slots] at X' e1 e2 h1 h2 h3 st
  subst h1; subst h2; subst h3
  exact ⟨v, (T.setVm vm₁).calling g' mk As.toArray, t, U', L, hT, X', hL, e1, e2, hq, st⟩
/-- not caught here, past rows that name other classes: it goes on to the caller -/
theorem vx_outP {p : Program} {l : Launch} {e : Env} {R : Room} {s : State} {m : MethodId} {args : Array Value} {below : List Frame} {meth : Method} {c : Code} {H : Heap} {locs : List Loc} {cells slots : Nat} {free : Addr → Prop} {ls : Array Slot} {rest : List Value} {Qc : Array Value → State → Outcome → State → Prop} {XC : String → State → State → Prop}
    {pc : Nat} {own E : String} {ce : Cell} {q : Addr} {mc ms : Nat} (hown : s.vm.findClass own = some m.cls) (hlocks : meth.locks = false)
    (hpass : ∀ z ∈ c.exceptionTable.toList, covers z pc = false ∨ (z.catchType ≠ 0 ∧ ∃ nm : String, (Cond.classLink own z.catchType nm).before args s = true ∧ va_Nc E nm s)) (hcell : H[q]? = some ce) (hv : ce.vm = .none) (hcl : s.vm.findClass E = some ce.cls)
    (hx : ∀ t : State, t.heap = H → s.vm.Alike t.vm → XC E s t) (hf : ∀ z ∈ locs, free z.base) (hc : cells ≤ mc) (hs : slots ≤ ms) :
    vx_W p l e R s m args below meth c H locs cells slots (vx_MQ below Qc XC args s mc ms free) (F0 m pc ls rest) q := by
  intro T hT X
  have hpl : e.platform.magicAccessors = ({} : Platform).magicAccessors := by rw [X.admits.platform]
  obtain ⟨vm', hW', X', st⟩ := X.outThrough hlocks q (g := F0 m pc ls rest) rfl rfl rfl (cell := ce) (by rw [hT]; exact hcell) (by rw [hv]; rfl)
    (by obtain ⟨k9, h9, -⟩ := Vm.findClass_spec hcl; exact ⟨k9, h9⟩) (fun z hz => by
      rcases hpass z hz with h | ⟨hz0, nm, hl1, hn1⟩
      · exact Or.inl h
      · obtain ⟨c6, hc6, hcl6⟩ := Cond.classLink_spec hown hl1 e.platform hpl
        obtain ⟨a8, b8, h1, h2, h3⟩ := hn1
        cases Option.some.inj (h1.symm.trans hcl)
        cases Option.some.inj (h2.symm.trans hc6)
        exact Or.inr ⟨hz0, _, hcl6, h3⟩)
  obtain ⟨g₀, hfr⟩ := X'.frames_eq
  have hcell9 : ((T.setVm vm').setFrames (.throwing q :: below)).heap[q]? = some ce := by
    show T.heap[q]? = some ce
    rw [hT]; exact hcell
  have hend : Ended ((T.setVm vm').setFrames (.throwing q :: below)) below (.threw q) := State.frames_setFrames _ (State.cur_lt_of_frames hfr)
  refine ⟨(T.setVm vm').setFrames (.throwing q :: below), ?_, .threw q, X'.here.running, hend, Or.inr ⟨q, rfl, E, ce, locs, hx _ hT (X'.ends _).1.alike, hcell9, hv, hcl, (X'.ends _).1, (X'.ends _).2.mono hc hs, hf⟩⟩
  rw [X.pushThrowing_eq]
  exact st
/-- a thing of a world lies in the heap -/
theorem vx_lt {D : va_G} {cl : List vw_C} {ws : va_W} {H1 : Heap} (h : va_P D cl ws H1) {k : Nat} {q : Nat × va_E} (hk : ws[k]? = some q) : q.1 < H1.size := (h k q hk).lt
end VXS
/-! ===== END ===== -/
/-! ===== BEGIN methods with a table of their own: called by a name, returning or throwing ===== -/
section VXH
/-! vx_backW, vx_callVX, vx_callSX, vx_callVW, vx_runVW, vx_runVX, vx_runSX, vx_ofWH follow the same proofs as their sisters above (Free/Laws.lean, Shelf42/LK1.lean); vx_outP calls Shelf42/NT130.lean (outThrough). -/
section
variable {l : Launch} {R : Room} {p : Program} {e : Env} {below : List Frame} {s : State} {sargs : Array Value} {y : MethodName} {len W9 : Nat}
theorem vx_backW {ws : List Cond} {rm : Room} {Pc : Array Value → State → Prop} {Qc : Array Value → State → Outcome → State → Prop} {XC : String → State → State → Prop} {mc ms : Nat} {free : Addr → Prop} {bytes : ByteArray} {maxL : Nat} {ret : Option FieldType} {hh : List (Nat × Nat × Nat × Nat)}
    (hM : vx_Met l y ws rm Pc Qc XC mc ms free) (hblind : FrameBlind Pc) (hrc : rm.cells = mc) (hrs : rm.slots = ms)
    (hframes : rm.frames + 1 ≤ R.frames) (hlocals : W9 + (maxL + 11) + rm.locals ≤ R.locals)
    (hws : ∀ w ∈ ws, ∀ a' U, s.WarmedH U.vm → w.before a' U = true) (hcode : Cond.codeWith y bytes maxL ret hh ∈ ws) (hinit : ∀ a' U, s.WarmedH U.vm → (Cond.initialized y.cls).before a' U = true) :
    vx_Back l R p e below s sargs y len W9 (PreOf R mc ms Pc) (PostOf Qc mc ms free) (vx_Post XC mc ms free) := by
  intro m meth c A g ig mk a X hg hsize hdg hW hn hp
  have h1 : (headSpec ws rm).pre.before a A.U = true := atoms_intro fun w hw => hws w hw _ _ X.warmed
  have h2 : (Cond.codeWith y bytes maxL ret hh).before a A.U = true := hws _ hcode _ _ X.warmed
  have h3 : (Cond.initialized y.cls).before a A.U = true := hinit _ _ X.warmed
  have h4 : A.cells + (headSpec ws rm).room.cells ≤ R.cells := by rw [show (headSpec ws rm).room.cells = mc from hrc]; exact hp.1
  have h5 : A.slots + (headSpec ws rm).room.slots ≤ R.slots := by rw [show (headSpec ws rm).room.slots = ms from hrs]; exact hp.2.1
  have hPc : Pc a (A.U.calling g mk a) := hblind _ _ _ _ hp.2.2
  obtain ⟨U, Ls, c0, s0⟩ := A
  dsimp only [Pt.U, Pt.locs, Pt.cells, Pt.slots] at h1 h2 h3 h4 h5 X hn hPc ⊢
  obtain ⟨m9, methY, cY, hn9, hmY, hcY, -, hlY, -⟩ := Cond.codeWith_spec h2
  cases Option.some.inj (hn9.symm.trans hn)
  obtain ⟨kY, hkY, -⟩ := className_of_methodNamed hn
  have hinitY : kY.init = .initialized := Cond.initialized_spec (findClass_of_methodNamed hn) hkY h3
  have h : At U g.method c below := by rw [hg]; exact X.here
  have hlocals9 : W9 + (maxL + 11) + (headSpec ws rm).room.locals ≤ R.locals := hlocals
  have happ : (headSpec ws rm).appliesLoose y e.platform (U.calling g mk a) = true :=
    Spec.appliesLoose_calling (g := g) h hdg hn hkY hinitY
      (X.room_calling (g := g) (R' := (headSpec ws rm).room) hsize hmY hcY hframes (by rw [hlY]; omega) h4 h5) h1
  obtain ⟨mid, hmid⟩ := h.above
  have hfr : (U.setTop g).frames = (.java g :: mid) ++ below := by rw [State.frames_setTop' g h.top, hmid]; rfl
  obtain ⟨o, s₂, hsteps, -, hend, hq⟩ := Steps.callFree hM p X.admits X.cas X.clock (acts := []) hfr happ hPc trivial
  have hq' : vx_Q Qc XC mc ms free a (U.calling g mk a) o s₂ := hq
  rw [State.frames_setTop' g h.top] at hend
  obtain ⟨g₀, hg0⟩ := Option.isSome_iff_exists.mp h.top
  obtain ⟨r, hr⟩ := State.topJava?_eq_some.mp hg0
  have hr' : (({ U with heap := s₂.heap, slotsUsed := s₂.slotsUsed } : State).setVm s₂.vm).frames = .java g₀ :: r := hr
  rcases hq' with ⟨hqc, L, hfe, hL⟩ | ⟨q, rfl, E, ce, L, hx, hce, hcv, hcl, hW₂, hsm, hL⟩
  · obtain ⟨⟨v, rfl⟩, hW₂, e2, q2, q3, q4, q5, q6⟩ := id hfe
    have e3 : s₂ = ({ (U.calling g mk a).setFrames s₂.frames with heap := s₂.heap, slotsUsed := s₂.slotsUsed } : State).setVm s₂.vm := by
      have : s₂ = ({ s₂ with vm := (U.calling g mk a).vm } : State).setVm s₂.vm := rfl
      rw [e2] at this
      exact this
    obtain ⟨c₂, i₂, len₂, hc₂, hd₂, hf₂⟩ := hend
    have hW' : U.WarmedH s₂.vm := hW₂
    have hcc : c₂ = c := by
      have h1 : s₂.code? g.method = U.code? g.method := by
        rw [State.code?_eq, State.code?_eq, hW'.alike.method?]
      exact Option.some.inj (hc₂.symm.trans (h1.trans h.code))
    subst hcc
    have hlen : len₂ = len := by rw [hdg] at hd₂; cases hd₂; rfl
    subst hlen
    have hs₂ : s₂ = (({ U with heap := s₂.heap, slotsUsed := s₂.slotsUsed } : State).setVm s₂.vm).setTop { g with pc := g.pc + len₂, stack := v.toList ++ g.stack } := by
      refine e3.trans ?_
      rw [hf₂, State.calling_eq h.top, State.setFrames_setFrames, State.setTop_of_frames _ hr', hr]
      rfl
    have hsame : U.sameButNew ({ U with heap := s₂.heap, slotsUsed := s₂.slotsUsed } : State) L mc ms := by
      refine ⟨?_, q2, q3, q4, q5, q6⟩
      obtain ⟨t, ht, -⟩ := State.frames_cons hr
      show ({ U with heap := s₂.heap, slotsUsed := s₂.slotsUsed } : State) = { U.setFrames U.frames with heap := s₂.heap, slotsUsed := s₂.slotsUsed }
      rw [State.setFrames_self ht]
    subst hg
    refine Or.inl ⟨v, ⟨(({ U with heap := s₂.heap, slotsUsed := s₂.slotsUsed } : State).setVm s₂.vm), Ls ++ L, c0 + mc, s0 + ms⟩,
      ⟨X.admits, X.cas, X.clock, X.frames, X.room, X.hears, X.method, X.code, (X.here.setHeapUsed s₂.heap s₂.slotsUsed).setVm hW'.alike, X.tail, State.WarmedH.trans X.warmed hW', X.limits, X.bytes, X.same.trans (hsame.setVm s.vm)⟩,
      ⟨g, mk, s₂, L, rfl, rfl, hqc, rfl, hL, rfl, rfl⟩, ?_⟩
    show Steps p.tables e below _ ((({ U with heap := s₂.heap, slotsUsed := s₂.slotsUsed } : State).setVm s₂.vm).setTop { g with pc := g.pc + len₂, stack := v.toList ++ g.stack })
    rw [← hs₂]
    exact hsteps
  · obtain ⟨e2, q2, q3, q4, q5, q6⟩ := id hsm
    have e3 : s₂ = ({ (U.calling g mk a).setFrames s₂.frames with heap := s₂.heap, slotsUsed := s₂.slotsUsed } : State).setVm s₂.vm := by
      have : s₂ = ({ s₂ with vm := (U.calling g mk a).vm } : State).setVm s₂.vm := rfl
      rw [e2] at this
      exact this
    have hf₂ : s₂.frames = .throwing q :: .java g :: U.frames.tail := hend
    have hW' : U.WarmedH s₂.vm := hW₂
    have hs₂ : s₂ = ((({ U with heap := s₂.heap, slotsUsed := s₂.slotsUsed } : State).setVm s₂.vm).setTop g).pushFrame (.throwing q) := by
      refine e3.trans ?_
      rw [hf₂, State.calling_eq h.top, State.setFrames_setFrames, State.pushFrame, State.frames_setTop _ hr', State.setTop_of_frames _ hr', State.setFrames_setFrames, hr]
      rfl
    have hsame : U.sameButNew ({ U with heap := s₂.heap, slotsUsed := s₂.slotsUsed } : State) L mc ms := by
      refine ⟨?_, q2, q3, q4, q5, q6⟩
      obtain ⟨t, ht, -⟩ := State.frames_cons hr
      show ({ U with heap := s₂.heap, slotsUsed := s₂.slotsUsed } : State) = { U.setFrames U.frames with heap := s₂.heap, slotsUsed := s₂.slotsUsed }
      rw [State.setFrames_self ht]
    subst hg
    refine Or.inr ⟨q, ⟨(({ U with heap := s₂.heap, slotsUsed := s₂.slotsUsed } : State).setVm s₂.vm), Ls ++ L, c0 + mc, s0 + ms⟩,
      ⟨X.admits, X.cas, X.clock, X.frames, X.room, X.hears, X.method, X.code, (X.here.setHeapUsed s₂.heap s₂.slotsUsed).setVm hW'.alike, X.tail, State.WarmedH.trans X.warmed hW', X.limits, X.bytes, X.same.trans (hsame.setVm s.vm)⟩,
      ⟨g, mk, s₂, L, E, ce, rfl, rfl, hx, hce, hcv, hcl, rfl, hL, rfl, rfl⟩, ?_⟩
    show Steps p.tables e below _ (((({ U with heap := s₂.heap, slotsUsed := s₂.slotsUsed } : State).setVm s₂.vm).setTop g).pushFrame (.throwing q))
    rw [← hs₂]
    exact hsteps
end
variable {p : Program} {l : Launch} {e : Env} {R : Room} {s : State} {m : MethodId} {args : Array Value} {below : List Frame} {meth : Method} {c : Code} {T : State} {H : Heap} {locs : List Loc} {cells slots : Nat}
theorem vx_callVX (X : Stand p l e R s m args below meth c T locs cells slots) (hexec : p.tables.exec = Jvm.exec) {own C : String} {index : Nat} {y : MethodName} {bytes : ByteArray} {maxL : Nat} {ret : Option FieldType} {hh : List (Nat × Nat × Nat × Nat)}
    (hown : s.vm.findClass own = some m.cls) (hlink : (Cond.methodLink own index y).before args s = true) (hinst : (Cond.instanceMethod y).before args s = true) (hsel : (Cond.selects C y y).before args s = true)
    (hcode : (Cond.codeWith y bytes maxL ret hh).before args s = true) (hy : y.cls ≠ "java/lang/invoke/MethodHandle" ∧ y.cls ≠ "java/lang/invoke/VarHandle")
    {W9 : Nat} {Pre : Pt → Array Value → Prop} {Post : Pt → Array Value → Option Value → Pt → Prop} {PostX : Pt → Array Value → Addr → Pt → Prop} (hK : vx_Back l R p e below s args y 3 W9 Pre Post PostX)
    {b : Addr} {cellB : Cell} (hcell : T.heap[b]? = some cellB) (hobj : cellB.vm.isStatics = false) (hcls : s.vm.findClass C = some cellB.cls)
    {g : JFrame} (hg : g.method = m) (hsize : g.locals.size = c.maxLocals) {argsL rest : List Value} (hlen : ∀ sig, parseMethodDescriptor y.desc = some sig → argsL.length = sig.parameters.length)
    (hstack : g.stack = argsL.reverse ++ .ref b :: rest) (hW : 2 * g.monitorRoom + (rest.map fun v => v.category).sum ≤ W9) (hdg : decode c.code g.pc = .ok (.invokevirtual index, 3))
    (hpre : ∀ vm₁, s.WarmedH vm₁ → Pre ⟨T.setVm vm₁, locs, cells, slots⟩ (Value.ref b :: argsL).toArray) :
    (∃ (v : Option Value) (vm₁ : Vm) (B : Pt), s.WarmedH vm₁ ∧ Stand p l e R s m args below meth c B.U B.locs B.cells B.slots ∧ Post ⟨T.setVm vm₁, locs, cells, slots⟩ (Value.ref b :: argsL).toArray v B ∧
      ∀ target, Steps p.tables e below (B.U.setTop { g with pc := g.pc + 3, stack := v.toList ++ rest }) target → Steps p.tables e below (T.setTop g) target) ∨
    (∃ (q : Addr) (vm₁ : Vm) (B : Pt), s.WarmedH vm₁ ∧ Stand p l e R s m args below meth c B.U B.locs B.cells B.slots ∧ PostX ⟨T.setVm vm₁, locs, cells, slots⟩ (Value.ref b :: argsL).toArray q B ∧
      Steps p.tables e below (T.setTop g) ((B.U.setTop { g with stack := rest }).pushFrame (.throwing q))) := by
  obtain ⟨mk, methM, hnamed, hmethM, hstM, habM⟩ := Cond.instanceMethod_spec hinst
  obtain ⟨m8, methM', cM, hn8, hmethM', -, -, -, -, -, -, hsigM⟩ := Cond.codeWith_spec hcode
  cases Option.some.inj (hn8.symm.trans hnamed)
  cases hmethM.symm.trans hmethM'
  obtain ⟨c2, r2, m2, q1, q2, q3, q4, kP, hkP, hkPi⟩ := Cond.selects_spec hsel
  cases hcls.symm.trans q1
  cases (State.methodFound?_of_named hnamed hy).symm.trans q2
  cases hnamed.symm.trans q3
  have hselP : selectMethod e.platform s.vm cellB.cls mk = .method mk := by rw [Launch.admits_selectMethod X.admits]; exact q4
  obtain ⟨vm₁, X₁, hstep₁⟩ := X.invokevirtual hexec hown hlink hnamed hmethM hstM hkP hkPi hy (a := b) (cell := cellB) hcell
    (fun z h => by rw [h] at hobj; cases hobj) hselP hmethM habM hkP hkPi (g := g) hg (argsL := argsL) (rest := rest) (hlen _ hsigM) hstack hdg
  rcases hK m meth c ⟨T.setVm vm₁, locs, cells, slots⟩ { g with stack := rest } (.invokevirtual index) mk (Value.ref b :: argsL).toArray X₁ hg hsize hdg hW (X₁.named hnamed) (hpre vm₁ X₁.warmed) with ⟨v, B, X', hpost, hsteps⟩ | ⟨q, B, X', hpost, hsteps⟩
  · exact Or.inl ⟨v, vm₁, B, X₁.warmed, X', hpost, fun target h => hstep₁ _ fun acts => by rw [doInvoke_state]; exact hsteps.trans h⟩
  · exact Or.inr ⟨q, vm₁, B, X₁.warmed, X', hpost, hstep₁ _ fun acts => by rw [doInvoke_state]; exact hsteps⟩
theorem vx_callSX (X : Stand p l e R s m args below meth c T locs cells slots) (hexec : p.tables.exec = Jvm.exec) {own : String} {index : Nat} {y : MethodName} {bytes : ByteArray} {maxL : Nat} {ret : Option FieldType} {hh : List (Nat × Nat × Nat × Nat)}
    (hown : s.vm.findClass own = some m.cls) (hlink : (Cond.methodLink own index y).before args s = true) (hstat : (Cond.static y).before args s = true) (hinit : (Cond.initialized y.cls).before args s = true)
    (hcode : (Cond.codeWith y bytes maxL ret hh).before args s = true) (hy : y.cls ≠ "java/lang/invoke/MethodHandle" ∧ y.cls ≠ "java/lang/invoke/VarHandle")
    {W9 : Nat} {Pre : Pt → Array Value → Prop} {Post : Pt → Array Value → Option Value → Pt → Prop} {PostX : Pt → Array Value → Addr → Pt → Prop} (hK : vx_Back l R p e below s args y 3 W9 Pre Post PostX)
    {g : JFrame} (hg : g.method = m) (hsize : g.locals.size = c.maxLocals) {argsL rest : List Value} (hlen : ∀ sig, parseMethodDescriptor y.desc = some sig → argsL.length = sig.parameters.length)
    (hstack : g.stack = argsL.reverse ++ rest) (hW : 2 * g.monitorRoom + (rest.map fun v => v.category).sum ≤ W9) (hdg : decode c.code g.pc = .ok (.invokestatic index, 3))
    (hpre : ∀ vm₁, s.WarmedH vm₁ → Pre ⟨T.setVm vm₁, locs, cells, slots⟩ argsL.toArray) :
    (∃ (v : Option Value) (vm₁ : Vm) (B : Pt), s.WarmedH vm₁ ∧ Stand p l e R s m args below meth c B.U B.locs B.cells B.slots ∧ Post ⟨T.setVm vm₁, locs, cells, slots⟩ argsL.toArray v B ∧
      ∀ target, Steps p.tables e below (B.U.setTop { g with pc := g.pc + 3, stack := v.toList ++ rest }) target → Steps p.tables e below (T.setTop g) target) ∨
    (∃ (q : Addr) (vm₁ : Vm) (B : Pt), s.WarmedH vm₁ ∧ Stand p l e R s m args below meth c B.U B.locs B.cells B.slots ∧ PostX ⟨T.setVm vm₁, locs, cells, slots⟩ argsL.toArray q B ∧
      Steps p.tables e below (T.setTop g) ((B.U.setTop { g with stack := rest }).pushFrame (.throwing q))) := by
  obtain ⟨mk, methM, cM, hnamed, hmethM, -, -, -, -, -, -, hsigM⟩ := Cond.codeWith_spec hcode
  have hstatic : methM.isStatic = true := Cond.static_spec hnamed hmethM hstat
  obtain ⟨kP, hkP, -⟩ := className_of_methodNamed hnamed
  have hinitP : kP.init = .initialized := Cond.initialized_spec (findClass_of_methodNamed hnamed) hkP hinit
  obtain ⟨vm₁, X₁, hstep₁⟩ := X.invokestatic hexec hown hlink hnamed hmethM hstatic hkP hinitP hy (g := g) hg (argsL := argsL) (rest := rest) (hlen _ hsigM) hstack hdg
  rcases hK m meth c ⟨T.setVm vm₁, locs, cells, slots⟩ { g with stack := rest } (.invokestatic index) mk argsL.toArray X₁ hg hsize hdg hW (X₁.named hnamed) (hpre vm₁ X₁.warmed) with ⟨v, B, X', hpost, hsteps⟩ | ⟨q, B, X', hpost, hsteps⟩
  · exact Or.inl ⟨v, vm₁, B, X₁.warmed, X', hpost, fun target h => hstep₁ _ fun acts => by rw [doInvoke_state]; exact hsteps.trans h⟩
  · exact Or.inr ⟨q, vm₁, B, X₁.warmed, X', hpost, hstep₁ _ fun acts => by rw [doInvoke_state]; exact hsteps⟩
theorem vx_callVW (X : Stand p l e R s m args below meth c T locs cells slots) (hexec : p.tables.exec = Jvm.exec) {own C : String} {index : Nat} {y : MethodName} {bytes : ByteArray} {maxL : Nat} {ret : Option FieldType} {hh : List (Nat × Nat × Nat × Nat)}
    (hown : s.vm.findClass own = some m.cls) (hlink : (Cond.methodLink own index y).before args s = true) (hinst : (Cond.instanceMethod y).before args s = true) (hsel : (Cond.selects C y y).before args s = true)
    (hcode : (Cond.codeWith y bytes maxL ret hh).before args s = true) (hy : y.cls ≠ "java/lang/invoke/MethodHandle" ∧ y.cls ≠ "java/lang/invoke/VarHandle")
    {W9 : Nat} {Pre : Pt → Array Value → Prop} {Post : Pt → Array Value → Option Value → Pt → Prop} (hK : Back l R p e below s args y 3 W9 Pre Post)
    {b : Addr} {cellB : Cell} (hcell : T.heap[b]? = some cellB) (hobj : cellB.vm.isStatics = false) (hcls : s.vm.findClass C = some cellB.cls)
    {g : JFrame} (hg : g.method = m) (hsize : g.locals.size = c.maxLocals) {argsL rest : List Value} (hlen : ∀ sig, parseMethodDescriptor y.desc = some sig → argsL.length = sig.parameters.length)
    (hstack : g.stack = argsL.reverse ++ .ref b :: rest) (hW : 2 * g.monitorRoom + (rest.map fun v => v.category).sum ≤ W9) (hdg : decode c.code g.pc = .ok (.invokevirtual index, 3))
    (hpre : ∀ vm₁, s.WarmedH vm₁ → Pre ⟨T.setVm vm₁, locs, cells, slots⟩ (Value.ref b :: argsL).toArray) :
    ∃ (v : Option Value) (vm₁ : Vm) (B : Pt), s.WarmedH vm₁ ∧ Stand p l e R s m args below meth c B.U B.locs B.cells B.slots ∧ Post ⟨T.setVm vm₁, locs, cells, slots⟩ (Value.ref b :: argsL).toArray v B ∧
      ∀ target, Steps p.tables e below (B.U.setTop { g with pc := g.pc + 3, stack := v.toList ++ rest }) target → Steps p.tables e below (T.setTop g) target := by
  obtain ⟨mk, methM, hnamed, hmethM, hstM, habM⟩ := Cond.instanceMethod_spec hinst
  obtain ⟨m8, methM', cM, hn8, hmethM', -, -, -, -, -, -, hsigM⟩ := Cond.codeWith_spec hcode
  cases Option.some.inj (hn8.symm.trans hnamed)
  cases hmethM.symm.trans hmethM'
  obtain ⟨c2, r2, m2, q1, q2, q3, q4, kP, hkP, hkPi⟩ := Cond.selects_spec hsel
  cases hcls.symm.trans q1
  cases (State.methodFound?_of_named hnamed hy).symm.trans q2
  cases hnamed.symm.trans q3
  have hselP : selectMethod e.platform s.vm cellB.cls mk = .method mk := by rw [Launch.admits_selectMethod X.admits]; exact q4
  obtain ⟨vm₁, X₁, hstep₁⟩ := X.invokevirtual hexec hown hlink hnamed hmethM hstM hkP hkPi hy (a := b) (cell := cellB) hcell
    (fun z h => by rw [h] at hobj; cases hobj) hselP hmethM habM hkP hkPi (g := g) hg (argsL := argsL) (rest := rest) (hlen _ hsigM) hstack hdg
  obtain ⟨v, B, X', hpost, hsteps⟩ := hK m meth c ⟨T.setVm vm₁, locs, cells, slots⟩ { g with stack := rest } (.invokevirtual index) mk (Value.ref b :: argsL).toArray X₁ hg hsize hdg hW (X₁.named hnamed) (hpre vm₁ X₁.warmed)
  exact ⟨v, vm₁, B, X₁.warmed, X', hpost, fun target h => hstep₁ _ fun acts => by rw [doInvoke_state]; exact hsteps.trans h⟩
abbrev vx_CVW (R : Room) (s : State) (args : Array Value) (own C : String) (index : Nat) (y : MethodName) (bytes : ByteArray) (maxL : Nat) (ret : Option FieldType) (hh : List (Nat × Nat × Nat × Nat)) (ws : List Cond) (rm : Room) (mc ms n : Nat) : Prop :=
  (rm.cells = mc ∧ rm.slots = ms ∧ rm.frames + 1 ≤ R.frames ∧ 8 + (maxL + 11) + rm.locals ≤ R.locals ∧ (∀ w ∈ ws, ∀ (a' : Array Value) (U : State), s.WarmedH U.vm → w.before a' U = true) ∧ Cond.codeWith y bytes maxL ret hh ∈ ws) ∧
  (Cond.codeWith y bytes maxL ret hh).before args s = true ∧ (Cond.initialized y.cls).before args s = true ∧ (y.cls ≠ "java/lang/invoke/MethodHandle" ∧ y.cls ≠ "java/lang/invoke/VarHandle") ∧
  (∀ sig, parseMethodDescriptor y.desc = some sig → n = sig.parameters.length) ∧ (Cond.methodLink own index y).before args s = true ∧ (Cond.instanceMethod y).before args s = true ∧ (Cond.selects C y y).before args s = true
theorem vx_cwVW {own C : String} {index maxL mc ms : Nat} {y : MethodName} {bytes : ByteArray} {ret : Option FieldType} {hh : List (Nat × Nat × Nat × Nat)} {Ts ws ws' : List Cond} {rm : Room} (n : Nat) (ht : ∀ w ∈ Ts, w.before args s = true) (hT : GoodIn Ts (wsV own index C y ws)) (hw : ws = Cond.codeWith y bytes maxL ret hh :: ws') (hrc : rm.cells = mc) (hrs : rm.slots = ms)
    (hd : y.cls = C ∧ y.cls ≠ "java/lang/invoke/MethodHandle" ∧ y.cls ≠ "java/lang/invoke/VarHandle" ∧ (parseMethodDescriptor y.desc).map (fun d => d.parameters.length) = some n) (hR : rm.frames + 1 ≤ R.frames ∧ 8 + (maxL + 11) + rm.locals ≤ R.locals) :
    vx_CVW R s args own C index y bytes maxL ret hh ws rm mc ms n := by
  obtain ⟨hC, hd⟩ := hd
  subst hC
  have ok : ∀ w ∈ wsV own index y.cls y ws, w.before args s = true := fun w h => ht w (hT w h).1
  have hG : GoodIn Ts ws := fun w h => hT w (by unfold wsV; exact List.mem_append_right _ h)
  have hc : Cond.codeWith y bytes maxL ret hh ∈ ws := by rw [hw]; exact List.mem_cons_self
  refine ⟨⟨hrc, hrs, hR.1, hR.2, pay_in ht hG, hc⟩, ht _ (hG _ hc).1, ok _ (by simp [wsV]), ⟨hd.1, hd.2.1⟩, fun sig h => ?_, ok _ (by simp [wsV]), ok _ (by simp [wsV]), ok _ (by simp [wsV])⟩
  have h2 := hd.2.2
  rw [h] at h2
  exact (Option.some.inj h2).symm
theorem vx_runVW {y : MethodName} {bytes cc : ByteArray} {maxL nL mc ms n index : Nat} {ret : Option FieldType} {hh : List (Nat × Nat × Nat × Nat)} {ws : List Cond} {rm : Room} {Pc : Array Value → State → Prop} {Qc : Array Value → State → Outcome → State → Prop} {free : Addr → Prop} {Ts : List Cond} {own C : String} {b : Addr} {As rest : List Value} {g : JFrame}
    (S : CallFix p m c cc nL s args Ts own) (hM : Met l y ws rm Pc Qc mc ms free) (cw : vx_CVW R s args own C index y bytes maxL ret hh ws rm mc ms n) (hp : PreV s H C b Pc As)
    (hg : g.method = m) (hn : As.length = n) (hsize : g.locals.size = nL) (hstack : g.stack = As.reverse ++ .ref b :: rest) (hW : 2 * g.monitorRoom + (rest.map fun v => v.category).sum ≤ 8) (hdg : decode cc g.pc = .ok (.invokevirtual index, 3)) (hf : cells + mc ≤ R.cells ∧ slots + ms ≤ R.slots) :
    va_Run p l e R s m args below meth c H locs cells slots mc ms g rest (Qc (Value.ref b :: As).toArray) free := by
  obtain ⟨⟨hrc, hrs, hfr, hlo, hws, hcw⟩, hcode, hini, hy, hlen, hl, hin, hse⟩ := cw
  have hK : Back l R p e below s args y 3 8 (PreOf R mc ms Pc) (PostOf Qc mc ms free) := va_backW (hh := hh) (bytes := bytes) (maxL := maxL) (ret := ret) hM hp.1 hrc hrs hfr hlo hws hcw (fun a' U hW => word_at hW (Or.inl (by first | rfl | simp [Cond.onTables, Cond.keeps, Cond.steady])) hini)
  obtain ⟨hx, hb, hml, ho, -⟩ := S
  obtain ⟨-, ⟨cellB, hcB, hoB, hclB⟩, hPc⟩ := hp
  intro T hT X
  obtain ⟨v, vm₁, ⟨U', l2, c2, s2⟩, hW₁, X', ⟨g', mk, t, L, e1, e2, hq, h1, hL, h2, h3⟩, st⟩ := vx_callVW X hx (C := C) (hh := hh) (bytes := bytes) (maxL := maxL) (ret := ret) ho hl hin hse hcode hy hK (by rw [hT]; exact hcB) hoB hclB hg (hsize.trans hml.symm) (argsL := As) (rest := rest) (fun sig h => hn.trans (hlen sig h)) hstack hW (by rw [hb]; exact hdg)
    (fun vm₁ hW₁ => ⟨hf.1, hf.2, hPc (T.setVm vm₁) hT hW₁⟩)
  dsimp only [Pt.U, Pt.locs, Pt.cells, Pt.slots] at X' e1 e2 h1 h2 h3 st
  subst h1; subst h2; subst h3
  exact ⟨v, (T.setVm vm₁).calling g' mk (Value.ref b :: As).toArray, t, U', L, hT, X', hL, e1, e2, hq, st⟩
section
variable {y : MethodName} {bytes cc : ByteArray} {maxL nL mc ms n index : Nat} {ret : Option FieldType} {ws : List Cond} {rm : Room} {Pc : Array Value → State → Prop} {Qc : Array Value → State → Outcome → State → Prop} {XC : String → State → State → Prop} {free : Addr → Prop} {Ts : List Cond} {own C : String} {b : Addr} {As rest : List Value} {g : JFrame}
theorem vx_runVX {hh : List (Nat × Nat × Nat × Nat)} (S : CallFix p m c cc nL s args Ts own) (hM : vx_Met l y ws rm Pc Qc XC mc ms free) (cw : vx_CVW R s args own C index y bytes maxL ret hh ws rm mc ms n) (hp : PreV s H C b Pc As)
    (hg : g.method = m) (hn : As.length = n) (hsize : g.locals.size = nL) (hstack : g.stack = As.reverse ++ .ref b :: rest) (hW : 2 * g.monitorRoom + (rest.map fun v => v.category).sum ≤ 8) (hdg : decode cc g.pc = .ok (.invokevirtual index, 3)) (hf : cells + mc ≤ R.cells ∧ slots + ms ≤ R.slots) :
    vx_Run p l e R s m args below meth c H locs cells slots mc ms g rest (Qc (Value.ref b :: As).toArray) XC free := by
  obtain ⟨⟨hrc, hrs, hfr, hlo, hws, hcw⟩, hcode, hini, hy, hlen, hl, hin, hse⟩ := cw
  have hK : vx_Back l R p e below s args y 3 8 (PreOf R mc ms Pc) (PostOf Qc mc ms free) (vx_Post XC mc ms free) := vx_backW (hh := hh) (bytes := bytes) (maxL := maxL) (ret := ret) hM hp.1 hrc hrs hfr hlo hws hcw (fun a' U hW => word_at hW (Or.inl (by first | rfl | simp [Cond.onTables, Cond.keeps, Cond.steady])) hini)
  obtain ⟨hx, hb, hml, ho, -⟩ := S
  obtain ⟨-, ⟨cellB, hcB, hoB, hclB⟩, hPc⟩ := hp
  intro T hT X
  rcases vx_callVX X hx (C := C) (hh := hh) (bytes := bytes) (maxL := maxL) (ret := ret) ho hl hin hse hcode hy hK (by rw [hT]; exact hcB) hoB hclB hg (hsize.trans hml.symm) (argsL := As) (rest := rest) (fun sig h => hn.trans (hlen sig h)) hstack hW (by rw [hb]; exact hdg)
    (fun vm₁ hW₁ => ⟨hf.1, hf.2, hPc (T.setVm vm₁) hT hW₁⟩) with ⟨v, vm₁, ⟨U', l2, c2, s2⟩, hW₁, X', ⟨g', mk, t, L, e1, e2, hq, h1, hL, h2, h3⟩, st⟩ | ⟨q, vm₁, ⟨U', l2, c2, s2⟩, hW₁, X', ⟨g', mk, t, L, E, ce, e1, e2, hq, hce, hcv, hcl, h1, hL, h2, h3⟩, st⟩
  · dsimp only [Pt.U, Pt.locs, Pt.cells, Pt.slots] at X' e1 e2 h1 h2 h3 st
    subst h1; subst h2; subst h3
    exact Or.inl ⟨v, (T.setVm vm₁).calling g' mk (Value.ref b :: As).toArray, t, U', L, hT, X', hL, e1, e2, hq, st⟩
  · dsimp only [Pt.U, Pt.locs, Pt.cells, Pt.slots] at X' e1 e2 h1 h2 h3 st hcl
    subst h1; subst h2; subst h3
    exact Or.inr ⟨q, (T.setVm vm₁).calling g' mk (Value.ref b :: As).toArray, t, U', L, E, ce, hT, X', hL, e1, e2, hq, hce, hcv, vx_cls hW₁ hcl, st⟩
theorem vx_runSX {hh : List (Nat × Nat × Nat × Nat)} (S : CallFix p m c cc nL s args Ts own) (hM : vx_Met l y ws rm Pc Qc XC mc ms free) (cw : vx_CSW R s args own index y bytes maxL ret hh ws rm mc ms n) (hp : PreS s H Pc As)
    (hg : g.method = m) (hn : As.length = n) (hsize : g.locals.size = nL) (hstack : g.stack = As.reverse ++ rest) (hW : 2 * g.monitorRoom + (rest.map fun v => v.category).sum ≤ 8) (hdg : decode cc g.pc = .ok (.invokestatic index, 3)) (hf : cells + mc ≤ R.cells ∧ slots + ms ≤ R.slots) :
    vx_Run p l e R s m args below meth c H locs cells slots mc ms g rest (Qc As.toArray) XC free := by
  obtain ⟨⟨hrc, hrs, hfr, hlo, hws, hcw⟩, hcode, hini, hy, hlen, hl, hstt⟩ := cw
  have hK : vx_Back l R p e below s args y 3 8 (PreOf R mc ms Pc) (PostOf Qc mc ms free) (vx_Post XC mc ms free) := vx_backW (hh := hh) (bytes := bytes) (maxL := maxL) (ret := ret) hM hp.1 hrc hrs hfr hlo hws hcw (fun a' U hW => word_at hW (Or.inl (by first | rfl | simp [Cond.onTables, Cond.keeps, Cond.steady])) hini)
  obtain ⟨hx, hb, hml, ho, -⟩ := S
  intro T hT X
  rcases vx_callSX X hx (hh := hh) (bytes := bytes) (maxL := maxL) (ret := ret) ho hl hstt hini hcode hy hK hg (hsize.trans hml.symm) (argsL := As) (rest := rest) (fun sig h => hn.trans (hlen sig h)) hstack hW (by rw [hb]; exact hdg)
    (fun vm₁ hW₁ => ⟨hf.1, hf.2, hp.2 (T.setVm vm₁) hT hW₁⟩) with ⟨v, vm₁, ⟨U', l2, c2, s2⟩, hW₁, X', ⟨g', mk, t, L, e1, e2, hq, h1, hL, h2, h3⟩, st⟩ | ⟨q, vm₁, ⟨U', l2, c2, s2⟩, hW₁, X', ⟨g', mk, t, L, E, ce, e1, e2, hq, hce, hcv, hcl, h1, hL, h2, h3⟩, st⟩
  · dsimp only [Pt.U, Pt.locs, Pt.cells, Pt.slots] at X' e1 e2 h1 h2 h3 st
    subst h1; subst h2; subst h3
    exact Or.inl ⟨v, (T.setVm vm₁).calling g' mk As.toArray, t, U', L, hT, X', hL, e1, e2, hq, st⟩
  · dsimp only [Pt.U, Pt.locs, Pt.cells, Pt.slots] at X' e1 e2 h1 h2 h3 st hcl
    subst h1; subst h2; subst h3
    exact Or.inr ⟨q, (T.setVm vm₁).calling g' mk As.toArray, t, U', L, E, ce, hT, X', hL, e1, e2, hq, hce, hcv, vx_cls hW₁ hcl, st⟩
end
end VXH
theorem vx_ofWH {l : Launch} {y : MethodName} {ws ws' : List Cond} {rm : Room} {Pc : Array Value → State → Prop} {Qc : Array Value → State → Outcome → State → Prop} {XC : String → State → State → Prop} {mc ms : Nat} {free : Addr → Prop} {cc : ByteArray} {maxL : Nat} {ret : Option FieldType} {hh : List (Nat × Nat × Nat × Nat)}
    (hy : plainName y.cls = true) (hw : ws = Cond.codeWith y cc maxL ret hh :: ws')
    (body : ∀ p e s m args below meth c s₁, BodyLoose p l y (headSpec ws rm) cc maxL ret e s m args below meth c s₁ → c.maxLocals = maxL → Pc args s →
      W p l e (headSpec ws rm).room s m args below meth c s.heap [] 0 0 (vx_MQ below Qc XC args s mc ms free) (entryFrame m args maxL)) : vx_Met l y ws rm Pc Qc XC mc ms free := by
  refine MetFree.of_bodyS (code := cc) (maxLocals := maxL) (ret := ret) hy ?_ ?_
  · intro args s m h hn
    obtain ⟨m9, meth, c, hn9, h1, h2, h3, h4, -, h5, h6, -⟩ := Cond.codeWith_spec (atoms_spec (ws := ws) h _ (by rw [hw]; exact List.mem_cons_self))
    cases hn.symm.trans hn9
    exact ⟨meth, c, h1, h2, h3, h4, h5, h6⟩
  · intro p e s m args below meth c s₁ B hml hP _
    have hh0 : s₁.heap = s.heap := by rw [B.state]; rfl
    obtain ⟨t, a1, o, b1, b2, b3⟩ := body p e s m args below meth c s₁ B hml hP s₁ hh0 (Stand.of_body B)
    exact ⟨t, o, a1, b1, b2, b3⟩
/-! ===== END ===== -/
end
section
def RX0 : String := "IndexRanges$Back"
def TX0 : u_T := fun k => match k with
  | 0 => ("IndexRanges$Range", "number", "I", true)
  | 1 => ("IndexRanges$Range", "kind", "I", true)
  | 2 => ("IndexRanges$Range", "width", "I", true)
  | 3 => ("IndexRanges$Range", "size", "J", true)
  | _ => ("IndexRanges$Back", "inner", "LIndexRanges$Range;", true)
def tyX0 : Nat → FieldType := fun k => match k with
  | 0 => .int
  | 1 => .int
  | 2 => .int
  | 3 => .long
  | _ => .object "IndexRanges$Range"
abbrev wsX00 : List Cond := u_ws RX0 TX0 5
theorem nmX0 : ∀ a, a < 5 → ∀ b, b < 5 → a ≠ b → (TX0 a).2.1 ≠ (TX0 b).2.1 := by decide +kernel
theorem tyX0_ok : ∀ k, k < 5 → parseFieldDescriptor (TX0 k).2.2.1 = some (tyX0 k) := by decide +kernel
abbrev cX0_init : ByteArray := prog_2_method_1_code
def yX0_init : MethodName := ⟨RX0, "<init>", "(ILIndexRanges$Range;)V"⟩
abbrev cX0_madeOf : ByteArray := prog_2_method_2_code
def yX0_madeOf : MethodName := ⟨RX0, "madeOf", "()I"⟩
abbrev cX0_place : ByteArray := prog_2_method_3_code
def yX0_place : MethodName := ⟨RX0, "place", "(LIndexRanges$Hand;IILIndexRanges$Miss;)J"⟩
abbrev cX0_fill : ByteArray := prog_2_method_4_code
def yX0_fill : MethodName := ⟨RX0, "fill", "(LIndexRanges$Hand;IJ)V"⟩
abbrev cX0_singleAt : ByteArray := prog_2_method_5_code
def yX0_singleAt : MethodName := ⟨RX0, "singleAt", "(I)LIndexRanges$Single;"⟩
def RX1 : String := "IndexRanges$Beside"
def TX1 : u_T := fun k => match k with
  | 0 => ("IndexRanges$Range", "number", "I", true)
  | 1 => ("IndexRanges$Range", "kind", "I", true)
  | 2 => ("IndexRanges$Range", "width", "I", true)
  | 3 => ("IndexRanges$Range", "size", "J", true)
  | _ => ("IndexRanges$Beside", "parts", "[LIndexRanges$Range;", true)
def tyX1 : Nat → FieldType := fun k => match k with
  | 0 => .int
  | 1 => .int
  | 2 => .int
  | 3 => .long
  | _ => .array (.object "IndexRanges$Range")
abbrev wsX10 : List Cond := u_ws RX1 TX1 5
theorem nmX1 : ∀ a, a < 5 → ∀ b, b < 5 → a ≠ b → (TX1 a).2.1 ≠ (TX1 b).2.1 := by decide +kernel
theorem tyX1_ok : ∀ k, k < 5 → parseFieldDescriptor (TX1 k).2.2.1 = some (tyX1 k) := by decide +kernel
abbrev cX1_init : ByteArray := prog_3_method_1_code
def yX1_init : MethodName := ⟨RX1, "<init>", "(IIIJ[LIndexRanges$Range;)V"⟩
abbrev cX1_madeOf : ByteArray := prog_3_method_2_code
def yX1_madeOf : MethodName := ⟨RX1, "madeOf", "()I"⟩
abbrev cX1_place : ByteArray := prog_3_method_3_code
def yX1_place : MethodName := ⟨RX1, "place", "(LIndexRanges$Hand;IILIndexRanges$Miss;)J"⟩
abbrev cX1_fill : ByteArray := prog_3_method_4_code
def yX1_fill : MethodName := ⟨RX1, "fill", "(LIndexRanges$Hand;IJ)V"⟩
abbrev cX1_singleAt : ByteArray := prog_3_method_5_code
def yX1_singleAt : MethodName := ⟨RX1, "singleAt", "(I)LIndexRanges$Single;"⟩
def RX2 : String := "IndexRanges$Hand"
def TX2 : u_T := fun k => match k with
  | _ => ("IndexRanges$Hand", "numbers", "[J", true)
def tyX2 : Nat → FieldType := fun k => match k with
  | _ => .array .long
abbrev wsX20 : List Cond := u_ws RX2 TX2 1
theorem nmX2 : ∀ a, a < 1 → ∀ b, b < 1 → a ≠ b → (TX2 a).2.1 ≠ (TX2 b).2.1 := by decide +kernel
theorem tyX2_ok : ∀ k, k < 1 → parseFieldDescriptor (TX2 k).2.2.1 = some (tyX2 k) := by decide +kernel
abbrev cX2_init : ByteArray := prog_4_method_1_code
def yX2_init : MethodName := ⟨RX2, "<init>", "()V"⟩
abbrev cX2_look : ByteArray := prog_4_method_2_code
def yX2_look : MethodName := ⟨RX2, "look", "(I)J"⟩
abbrev cX2_take : ByteArray := prog_4_method_3_code
def yX2_take : MethodName := ⟨RX2, "take", "(IJ)V"⟩
abbrev cX2_drop : ByteArray := prog_4_method_4_code
def yX2_drop : MethodName := ⟨RX2, "drop", "()V"⟩
def RX3 : String := "IndexRanges$Miss"
def TX3 : u_T := fun k => match k with
  | 0 => ("IndexRanges$Miss", "times", "I", false)
  | 1 => ("IndexRanges$Miss", "single", "I", false)
  | 2 => ("IndexRanges$Miss", "number", "I", false)
  | _ => ("IndexRanges$Miss", "depth", "I", false)
def tyX3 : Nat → FieldType := fun k => match k with
  | 0 => .int
  | 1 => .int
  | 2 => .int
  | _ => .int
abbrev wsX30 : List Cond := u_ws RX3 TX3 4
theorem nmX3 : ∀ a, a < 4 → ∀ b, b < 4 → a ≠ b → (TX3 a).2.1 ≠ (TX3 b).2.1 := by decide +kernel
theorem tyX3_ok : ∀ k, k < 4 → parseFieldDescriptor (TX3 k).2.2.1 = some (tyX3 k) := by decide +kernel
abbrev cX3_init : ByteArray := prog_5_method_1_code
def yX3_init : MethodName := ⟨RX3, "<init>", "()V"⟩
abbrev cX3_note : ByteArray := prog_5_method_2_code
def yX3_note : MethodName := ⟨RX3, "note", "(III)V"⟩
abbrev cX3_forget : ByteArray := prog_5_method_3_code
def yX3_forget : MethodName := ⟨RX3, "forget", "()V"⟩
def RX4 : String := "IndexRanges$Names"
def TX4 : u_T := fun k => match k with
  | 0 => ("IndexRanges$Range", "number", "I", true)
  | 1 => ("IndexRanges$Range", "kind", "I", true)
  | 2 => ("IndexRanges$Range", "width", "I", true)
  | 3 => ("IndexRanges$Range", "size", "J", true)
  | 4 => ("IndexRanges$Names", "around", "I", true)
  | _ => ("IndexRanges$Names", "first", "I", true)
def tyX4 : Nat → FieldType := fun k => match k with
  | 0 => .int
  | 1 => .int
  | 2 => .int
  | 3 => .long
  | 4 => .int
  | _ => .int
abbrev wsX40 : List Cond := u_ws RX4 TX4 6
theorem nmX4 : ∀ a, a < 6 → ∀ b, b < 6 → a ≠ b → (TX4 a).2.1 ≠ (TX4 b).2.1 := by decide +kernel
theorem tyX4_ok : ∀ k, k < 6 → parseFieldDescriptor (TX4 k).2.2.1 = some (tyX4 k) := by decide +kernel
abbrev cX4_init : ByteArray := prog_6_method_1_code
def yX4_init : MethodName := ⟨RX4, "<init>", "(IIII)V"⟩
abbrev cX4_placeOf : ByteArray := prog_6_method_2_code
def yX4_placeOf : MethodName := ⟨RX4, "placeOf", "(J)J"⟩
abbrev cX4_valueAt : ByteArray := prog_6_method_3_code
def yX4_valueAt : MethodName := ⟨RX4, "valueAt", "(J)J"⟩
abbrev cX4_liesIn : ByteArray := prog_6_method_4_code
def yX4_liesIn : MethodName := ⟨RX4, "liesIn", "(LIndexRanges$Single;)Z"⟩
def RX5 : String := "IndexRanges$Range"
def TX5 : u_T := fun k => match k with
  | _ => ("", "", "", false)
def tyX5 : Nat → FieldType := fun k => match k with
  | _ => .int
abbrev wsX50 : List Cond := u_ws RX5 TX5 0
theorem nmX5 : ∀ a, a < 0 → ∀ b, b < 0 → a ≠ b → (TX5 a).2.1 ≠ (TX5 b).2.1 := by decide +kernel
theorem tyX5_ok : ∀ k, k < 0 → parseFieldDescriptor (TX5 k).2.2.1 = some (tyX5 k) := by decide +kernel
abbrev cX5_init : ByteArray := prog_7_method_1_code
def yX5_init : MethodName := ⟨RX5, "<init>", "(IIIJ)V"⟩
abbrev cX5_reaches : ByteArray := prog_7_method_2_code
def yX5_reaches : MethodName := ⟨RX5, "reaches", "(J)Z"⟩
def RX6 : String := "IndexRanges$Row"
def TX6 : u_T := fun k => match k with
  | 0 => ("IndexRanges$Range", "number", "I", true)
  | 1 => ("IndexRanges$Range", "kind", "I", true)
  | 2 => ("IndexRanges$Range", "width", "I", true)
  | 3 => ("IndexRanges$Range", "size", "J", true)
  | 4 => ("IndexRanges$Row", "first", "J", true)
  | 5 => ("IndexRanges$Row", "last", "J", true)
  | _ => ("IndexRanges$Row", "step", "I", true)
def tyX6 : Nat → FieldType := fun k => match k with
  | 0 => .int
  | 1 => .int
  | 2 => .int
  | 3 => .long
  | 4 => .long
  | 5 => .long
  | _ => .int
abbrev wsX60 : List Cond := u_ws RX6 TX6 7
theorem nmX6 : ∀ a, a < 7 → ∀ b, b < 7 → a ≠ b → (TX6 a).2.1 ≠ (TX6 b).2.1 := by decide +kernel
theorem tyX6_ok : ∀ k, k < 7 → parseFieldDescriptor (TX6 k).2.2.1 = some (tyX6 k) := by decide +kernel
abbrev cX6_init : ByteArray := prog_8_method_1_code
def yX6_init : MethodName := ⟨RX6, "<init>", "(IIJJIJ)V"⟩
abbrev cX6_placeOf : ByteArray := prog_8_method_2_code
def yX6_placeOf : MethodName := ⟨RX6, "placeOf", "(J)J"⟩
abbrev cX6_valueAt : ByteArray := prog_8_method_3_code
def yX6_valueAt : MethodName := ⟨RX6, "valueAt", "(J)J"⟩
abbrev cX6_liesIn : ByteArray := prog_8_method_4_code
def yX6_liesIn : MethodName := ⟨RX6, "liesIn", "(LIndexRanges$Single;)Z"⟩
abbrev cX6_liesInRow : ByteArray := prog_8_method_5_code
def yX6_liesInRow : MethodName := ⟨RX6, "liesInRow", "(LIndexRanges$Row;)Z"⟩
def RX7 : String := "IndexRanges$Single"
def TX7 : u_T := fun k => match k with
  | _ => ("", "", "", false)
def tyX7 : Nat → FieldType := fun k => match k with
  | _ => .int
abbrev wsX70 : List Cond := u_ws RX7 TX7 0
theorem nmX7 : ∀ a, a < 0 → ∀ b, b < 0 → a ≠ b → (TX7 a).2.1 ≠ (TX7 b).2.1 := by decide +kernel
theorem tyX7_ok : ∀ k, k < 0 → parseFieldDescriptor (TX7 k).2.2.1 = some (tyX7 k) := by decide +kernel
abbrev cX7_init : ByteArray := prog_9_method_1_code
def yX7_init : MethodName := ⟨RX7, "<init>", "(IIJ)V"⟩
abbrev cX7_madeOf : ByteArray := prog_9_method_5_code
def yX7_madeOf : MethodName := ⟨RX7, "madeOf", "()I"⟩
abbrev cX7_place : ByteArray := prog_9_method_6_code
def yX7_place : MethodName := ⟨RX7, "place", "(LIndexRanges$Hand;IILIndexRanges$Miss;)J"⟩
abbrev cX7_fill : ByteArray := prog_9_method_7_code
def yX7_fill : MethodName := ⟨RX7, "fill", "(LIndexRanges$Hand;IJ)V"⟩
abbrev cX7_singleAt : ByteArray := prog_9_method_8_code
def yX7_singleAt : MethodName := ⟨RX7, "singleAt", "(I)LIndexRanges$Single;"⟩
abbrev cX7_eachLiesIn : ByteArray := prog_9_method_9_code
def yX7_eachLiesIn : MethodName := ⟨RX7, "eachLiesIn", "(LIndexRanges$Single;)Z"⟩
def RX8 : String := "IndexRanges"
def TX8 : u_T := fun k => match k with
  | 0 => ("IndexRanges", "hand", "LIndexRanges$Hand;", true)
  | 1 => ("IndexRanges", "scratch", "LIndexRanges$Hand;", true)
  | 2 => ("IndexRanges", "lastMiss", "LIndexRanges$Miss;", true)
  | 3 => ("IndexRanges", "ranges", "[LIndexRanges$Range;", true)
  | 4 => ("IndexRanges", "bases", "[LIndexRanges$Range;", true)
  | 5 => ("IndexRanges", "cells", "[[I", true)
  | 6 => ("IndexRanges", "rangeCount", "I", false)
  | _ => ("IndexRanges", "arrayCount", "I", false)
def tyX8 : Nat → FieldType := fun k => match k with
  | 0 => .object "IndexRanges$Hand"
  | 1 => .object "IndexRanges$Hand"
  | 2 => .object "IndexRanges$Miss"
  | 3 => .array (.object "IndexRanges$Range")
  | 4 => .array (.object "IndexRanges$Range")
  | 5 => .array (.array .int)
  | 6 => .int
  | _ => .int
abbrev wsX80 : List Cond := u_ws RX8 TX8 8
theorem nmX8 : ∀ a, a < 8 → ∀ b, b < 8 → a ≠ b → (TX8 a).2.1 ≠ (TX8 b).2.1 := by decide +kernel
theorem tyX8_ok : ∀ k, k < 8 → parseFieldDescriptor (TX8 k).2.2.1 = some (tyX8 k) := by decide +kernel
abbrev cX8_init : ByteArray := prog_1_method_1_code
def yX8_init : MethodName := ⟨RX8, "<init>", "()V"⟩
abbrev cX8_wholes : ByteArray := prog_1_method_2_code
def yX8_wholes : MethodName := ⟨RX8, "wholes", "(JJ)I"⟩
abbrev cX8_signs : ByteArray := prog_1_method_3_code
def yX8_signs : MethodName := ⟨RX8, "signs", "(II)I"⟩
abbrev cX8_names : ByteArray := prog_1_method_4_code
def yX8_names : MethodName := ⟨RX8, "names", "(III)I"⟩
abbrev cX8_steps : ByteArray := prog_1_method_5_code
def yX8_steps : MethodName := ⟨RX8, "steps", "(JJI)I"⟩
abbrev cX8_back : ByteArray := prog_1_method_6_code
def yX8_back : MethodName := ⟨RX8, "back", "(I)I"⟩
abbrev cX8_pair : ByteArray := prog_1_method_7_code
def yX8_pair : MethodName := ⟨RX8, "pair", "(II)I"⟩
abbrev cX8_triple : ByteArray := prog_1_method_8_code
def yX8_triple : MethodName := ⟨RX8, "triple", "(III)I"⟩
abbrev cX8_told : ByteArray := prog_1_method_9_code
def yX8_told : MethodName := ⟨RX8, "told", "(II)I"⟩
abbrev cX8_size : ByteArray := prog_1_method_10_code
def yX8_size : MethodName := ⟨RX8, "size", "(I)J"⟩
abbrev cX8_hold : ByteArray := prog_1_method_11_code
def yX8_hold : MethodName := ⟨RX8, "hold", "(IJ)J"⟩
abbrev cX8_held : ByteArray := prog_1_method_12_code
def yX8_held : MethodName := ⟨RX8, "held", "(I)J"⟩
abbrev cX8_index : ByteArray := prog_1_method_13_code
def yX8_index : MethodName := ⟨RX8, "index", "(I)J"⟩
abbrev cX8_has : ByteArray := prog_1_method_14_code
def yX8_has : MethodName := ⟨RX8, "has", "(I)I"⟩
abbrev cX8_element : ByteArray := prog_1_method_15_code
def yX8_element : MethodName := ⟨RX8, "element", "(IJ)I"⟩
abbrev cX8_go : ByteArray := prog_1_method_16_code
def yX8_go : MethodName := ⟨RX8, "go", "(IJ)J"⟩
abbrev cX8_miss : ByteArray := prog_1_method_17_code
def yX8_miss : MethodName := ⟨RX8, "miss", "(I)I"⟩
abbrev cX8_within : ByteArray := prog_1_method_18_code
def yX8_within : MethodName := ⟨RX8, "within", "(II)I"⟩
abbrev cX8_array : ByteArray := prog_1_method_19_code
def yX8_array : MethodName := ⟨RX8, "array", "(I)I"⟩
abbrev cX8_put : ByteArray := prog_1_method_20_code
def yX8_put : MethodName := ⟨RX8, "put", "(II)I"⟩
abbrev cX8_at : ByteArray := prog_1_method_21_code
def yX8_at : MethodName := ⟨RX8, "at", "(I)I"⟩
abbrev cX8_sum : ByteArray := prog_1_method_22_code
def yX8_sum : MethodName := ⟨RX8, "sum", "(IIJ)J"⟩
abbrev cX8_over : ByteArray := prog_1_method_23_code
def yX8_over : MethodName := ⟨RX8, "over", "(I)I"⟩
abbrev cX8_count : ByteArray := prog_1_method_24_code
def yX8_count : MethodName := ⟨RX8, "count", "(I)I"⟩
abbrev cX8_clear : ByteArray := prog_1_method_25_code
def yX8_clear : MethodName := ⟨RX8, "clear", "()I"⟩
abbrev cX8_isUpTo : ByteArray := prog_1_method_26_code
def yX8_isUpTo : MethodName := ⟨RX8, "isUpTo", "(II)Z"⟩
abbrev cX8_longCode : ByteArray := prog_1_method_27_code
def yX8_longCode : MethodName := ⟨RX8, "longCode", "(I)J"⟩
abbrev cX8_rangeOf : ByteArray := prog_1_method_28_code
def yX8_rangeOf : MethodName := ⟨RX8, "rangeOf", "(I)LIndexRanges$Range;"⟩
abbrev cX8_baseOf : ByteArray := prog_1_method_29_code
def yX8_baseOf : MethodName := ⟨RX8, "baseOf", "(I)LIndexRanges$Range;"⟩
abbrev cX8_isFull : ByteArray := prog_1_method_30_code
def yX8_isFull : MethodName := ⟨RX8, "isFull", "()Z"⟩
abbrev cX8_add : ByteArray := prog_1_method_31_code
def yX8_add : MethodName := ⟨RX8, "add", "(LIndexRanges$Range;)I"⟩
abbrev cX8_addRow : ByteArray := prog_1_method_32_code
def yX8_addRow : MethodName := ⟨RX8, "addRow", "(IJJI)I"⟩
abbrev cX8_addBeside : ByteArray := prog_1_method_33_code
def yX8_addBeside : MethodName := ⟨RX8, "addBeside", "(I[LIndexRanges$Range;)I"⟩
abbrev cX8_placeOfHand : ByteArray := prog_1_method_34_code
def yX8_placeOfHand : MethodName := ⟨RX8, "placeOfHand", "(LIndexRanges$Range;)J"⟩
abbrev cX8_cellOfHand : ByteArray := prog_1_method_35_code
def yX8_cellOfHand : MethodName := ⟨RX8, "cellOfHand", "(LIndexRanges$Range;)I"⟩
abbrev cX8_cellsInUse : ByteArray := prog_1_method_36_code
def yX8_cellsInUse : MethodName := ⟨RX8, "cellsInUse", "()I"⟩
abbrev cX8_liesWithin : ByteArray := prog_1_method_37_code
def yX8_liesWithin : MethodName := ⟨RX8, "liesWithin", "(LIndexRanges$Range;LIndexRanges$Range;)Z"⟩
abbrev cX8_quotient : ByteArray := prog_1_method_38_code
def yX8_quotient : MethodName := ⟨RX8, "quotient", "(JJ)J"⟩
abbrev cX8_times : ByteArray := prog_1_method_39_code
def yX8_times : MethodName := ⟨RX8, "times", "(JJ)J"⟩
abbrev cX8_plus : ByteArray := prog_1_method_40_code
def yX8_plus : MethodName := ⟨RX8, "plus", "(JJ)J"⟩
def RX9 : String := "IndexRangesModel"
def TX9 : u_T := fun k => match k with
  | 0 => ("IndexRangesModel", "ranges", "I", false)
  | 1 => ("IndexRangesModel", "kind", "[I", true)
  | 2 => ("IndexRangesModel", "parts", "[I", true)
  | 3 => ("IndexRangesModel", "width", "[I", true)
  | 4 => ("IndexRangesModel", "sizes", "[J", true)
  | 5 => ("IndexRangesModel", "from", "[J", true)
  | 6 => ("IndexRangesModel", "to", "[J", true)
  | 7 => ("IndexRangesModel", "step", "[I", true)
  | 8 => ("IndexRangesModel", "single", "[I", true)
  | 9 => ("IndexRangesModel", "turned", "[Z", true)
  | 10 => ("IndexRangesModel", "deep", "[I", true)
  | 11 => ("IndexRangesModel", "hand", "[J", true)
  | 12 => ("IndexRangesModel", "look", "[J", true)
  | 13 => ("IndexRangesModel", "hasMissed", "Z", false)
  | 14 => ("IndexRangesModel", "missSingle", "I", false)
  | 15 => ("IndexRangesModel", "missNumber", "I", false)
  | 16 => ("IndexRangesModel", "missDeep", "I", false)
  | 17 => ("IndexRangesModel", "misses", "I", false)
  | 18 => ("IndexRangesModel", "arrays", "I", false)
  | 19 => ("IndexRangesModel", "arrayRange", "[I", true)
  | 20 => ("IndexRangesModel", "cells", "[I", true)
  | _ => ("IndexRangesModel", "thrownNow", "I", false)
def tyX9 : Nat → FieldType := fun k => match k with
  | 0 => .int
  | 1 => .array .int
  | 2 => .array .int
  | 3 => .array .int
  | 4 => .array .long
  | 5 => .array .long
  | 6 => .array .long
  | 7 => .array .int
  | 8 => .array .int
  | 9 => .array .boolean
  | 10 => .array .int
  | 11 => .array .long
  | 12 => .array .long
  | 13 => .boolean
  | 14 => .int
  | 15 => .int
  | 16 => .int
  | 17 => .int
  | 18 => .int
  | 19 => .array .int
  | 20 => .array .int
  | _ => .int
abbrev wsX90 : List Cond := u_ws RX9 TX9 22
theorem nmX9 : ∀ a, a < 22 → ∀ b, b < 22 → a ≠ b → (TX9 a).2.1 ≠ (TX9 b).2.1 := by decide +kernel
theorem tyX9_ok : ∀ k, k < 22 → parseFieldDescriptor (TX9 k).2.2.1 = some (tyX9 k) := by decide +kernel
abbrev cX9_init : ByteArray := prog_11_method_1_code
def yX9_init : MethodName := ⟨RX9, "<init>", "()V"⟩
abbrev cX9_in : ByteArray := prog_11_method_2_code
def yX9_in : MethodName := ⟨RX9, "in", "(JJJ)Z"⟩
abbrev cX9_noRange : ByteArray := prog_11_method_3_code
def yX9_noRange : MethodName := ⟨RX9, "noRange", "(I)Z"⟩
abbrev cX9_noArray : ByteArray := prog_11_method_4_code
def yX9_noArray : MethodName := ⟨RX9, "noArray", "(I)Z"⟩
abbrev cX9_thrown : ByteArray := prog_11_method_5_code
def yX9_thrown : MethodName := ⟨RX9, "thrown", "()I"⟩
abbrev cX9_stepsUp : ByteArray := prog_11_method_6_code
def yX9_stepsUp : MethodName := ⟨RX9, "stepsUp", "(JJJ)J"⟩
abbrev cX9_singleSize : ByteArray := prog_11_method_7_code
def yX9_singleSize : MethodName := ⟨RX9, "singleSize", "(I)J"⟩
abbrev cX9_addSingle : ByteArray := prog_11_method_8_code
def yX9_addSingle : MethodName := ⟨RX9, "addSingle", "(IJJI)I"⟩
abbrev cX9_wholes : ByteArray := prog_11_method_9_code
def yX9_wholes : MethodName := ⟨RX9, "wholes", "(JJ)I"⟩
abbrev cX9_signs : ByteArray := prog_11_method_10_code
def yX9_signs : MethodName := ⟨RX9, "signs", "(II)I"⟩
abbrev cX9_names : ByteArray := prog_11_method_11_code
def yX9_names : MethodName := ⟨RX9, "names", "(III)I"⟩
abbrev cX9_steps : ByteArray := prog_11_method_12_code
def yX9_steps : MethodName := ⟨RX9, "steps", "(JJI)I"⟩
abbrev cX9_hasNumber : ByteArray := prog_11_method_13_code
def yX9_hasNumber : MethodName := ⟨RX9, "hasNumber", "(IJ)Z"⟩
abbrev cX9_leftOver : ByteArray := prog_11_method_14_code
def yX9_leftOver : MethodName := ⟨RX9, "leftOver", "(JJJ)J"⟩
abbrev cX9_placeOf : ByteArray := prog_11_method_15_code
def yX9_placeOf : MethodName := ⟨RX9, "placeOf", "(IJ)J"⟩
abbrev cX9_numberAt : ByteArray := prog_11_method_16_code
def yX9_numberAt : MethodName := ⟨RX9, "numberAt", "(IJ)J"⟩
abbrev cX9_take : ByteArray := prog_11_method_17_code
def yX9_take : MethodName := ⟨RX9, "take", "(IIIZ)V"⟩
abbrev cX9_times : ByteArray := prog_11_method_18_code
def yX9_times : MethodName := ⟨RX9, "times", "(JJ)J"⟩
abbrev cX9_sizeOf : ByteArray := prog_11_method_19_code
def yX9_sizeOf : MethodName := ⟨RX9, "sizeOf", "(I)J"⟩
abbrev cX9_begin : ByteArray := prog_11_method_20_code
def yX9_begin : MethodName := ⟨RX9, "begin", "(III)I"⟩
abbrev cX9_back : ByteArray := prog_11_method_21_code
def yX9_back : MethodName := ⟨RX9, "back", "(I)I"⟩
abbrev cX9_pair : ByteArray := prog_11_method_22_code
def yX9_pair : MethodName := ⟨RX9, "pair", "(II)I"⟩
abbrev cX9_triple : ByteArray := prog_11_method_23_code
def yX9_triple : MethodName := ⟨RX9, "triple", "(III)I"⟩
abbrev cX9_told : ByteArray := prog_11_method_24_code
def yX9_told : MethodName := ⟨RX9, "told", "(II)I"⟩
abbrev cX9_size : ByteArray := prog_11_method_25_code
def yX9_size : MethodName := ⟨RX9, "size", "(I)J"⟩
abbrev cX9_hold : ByteArray := prog_11_method_26_code
def yX9_hold : MethodName := ⟨RX9, "hold", "(IJ)J"⟩
abbrev cX9_held : ByteArray := prog_11_method_27_code
def yX9_held : MethodName := ⟨RX9, "held", "(I)J"⟩
abbrev cX9_isHeld : ByteArray := prog_11_method_28_code
def yX9_isHeld : MethodName := ⟨RX9, "isHeld", "(I)Z"⟩
abbrev cX9_place : ByteArray := prog_11_method_29_code
def yX9_place : MethodName := ⟨RX9, "place", "(I)J"⟩
abbrev cX9_lay : ByteArray := prog_11_method_30_code
def yX9_lay : MethodName := ⟨RX9, "lay", "(IJ[J)V"⟩
abbrev cX9_hasPlace : ByteArray := prog_11_method_31_code
def yX9_hasPlace : MethodName := ⟨RX9, "hasPlace", "(IJ)Z"⟩
abbrev cX9_index : ByteArray := prog_11_method_32_code
def yX9_index : MethodName := ⟨RX9, "index", "(I)J"⟩
abbrev cX9_has : ByteArray := prog_11_method_33_code
def yX9_has : MethodName := ⟨RX9, "has", "(I)I"⟩
abbrev cX9_element : ByteArray := prog_11_method_34_code
def yX9_element : MethodName := ⟨RX9, "element", "(IJ)I"⟩
abbrev cX9_go : ByteArray := prog_11_method_35_code
def yX9_go : MethodName := ⟨RX9, "go", "(IJ)J"⟩
abbrev cX9_miss : ByteArray := prog_11_method_36_code
def yX9_miss : MethodName := ⟨RX9, "miss", "(I)I"⟩
abbrev cX9_liesIn : ByteArray := prog_11_method_37_code
def yX9_liesIn : MethodName := ⟨RX9, "liesIn", "(II)Z"⟩
abbrev cX9_lastOf : ByteArray := prog_11_method_38_code
def yX9_lastOf : MethodName := ⟨RX9, "lastOf", "(I)J"⟩
abbrev cX9_within : ByteArray := prog_11_method_39_code
def yX9_within : MethodName := ⟨RX9, "within", "(II)I"⟩
abbrev cX9_array : ByteArray := prog_11_method_40_code
def yX9_array : MethodName := ⟨RX9, "array", "(I)I"⟩
abbrev cX9_cellOf : ByteArray := prog_11_method_41_code
def yX9_cellOf : MethodName := ⟨RX9, "cellOf", "(I)I"⟩
abbrev cX9_put : ByteArray := prog_11_method_42_code
def yX9_put : MethodName := ⟨RX9, "put", "(II)I"⟩
abbrev cX9_at : ByteArray := prog_11_method_43_code
def yX9_at : MethodName := ⟨RX9, "at", "(I)I"⟩
abbrev cX9_sum : ByteArray := prog_11_method_44_code
def yX9_sum : MethodName := ⟨RX9, "sum", "(IIJ)J"⟩
abbrev cX9_over : ByteArray := prog_11_method_45_code
def yX9_over : MethodName := ⟨RX9, "over", "(I)I"⟩
abbrev cX9_count : ByteArray := prog_11_method_46_code
def yX9_count : MethodName := ⟨RX9, "count", "(I)I"⟩
abbrev cX9_clear : ByteArray := prog_11_method_47_code
def yX9_clear : MethodName := ⟨RX9, "clear", "()I"⟩
def RJx00060 : String := "java/lang/ArrayIndexOutOfBoundsException"
def TJx00060 : u_T := fun k => match k with
  | 0 => ("java/lang/Throwable", "backtrace", "Ljava/lang/Object;", false)
  | 1 => ("java/lang/Throwable", "detailMessage", "Ljava/lang/String;", false)
  | 2 => ("java/lang/Throwable", "cause", "Ljava/lang/Throwable;", false)
  | 3 => ("java/lang/Throwable", "stackTrace", "[Ljava/lang/StackTraceElement;", false)
  | 4 => ("java/lang/Throwable", "depth", "I", false)
  | _ => ("java/lang/Throwable", "suppressedExceptions", "Ljava/util/List;", false)
def tyJx00060 : Nat → FieldType := fun k => match k with
  | 0 => .object "java/lang/Object"
  | 1 => .object "java/lang/String"
  | 2 => .object "java/lang/Throwable"
  | 3 => .array (.object "java/lang/StackTraceElement")
  | 4 => .int
  | _ => .object "java/util/List"
abbrev wsJx000600 : List Cond := u_ws RJx00060 TJx00060 6
theorem nmJx00060 : ∀ a, a < 6 → ∀ b, b < 6 → a ≠ b → (TJx00060 a).2.1 ≠ (TJx00060 b).2.1 := by decide +kernel
theorem tyJx00060_ok : ∀ k, k < 6 → parseFieldDescriptor (TJx00060 k).2.2.1 = some (tyJx00060 k) := by decide +kernel
abbrev cJx00060_init_a7421 : ByteArray := prog_12_method_2_code
def yJx00060_init_a7421 : MethodName := ⟨RJx00060, "<init>", "(Ljava/lang/String;)V"⟩
def RJxde1cd : String := "java/lang/NegativeArraySizeException"
def TJxde1cd : u_T := fun k => match k with
  | 0 => ("java/lang/Throwable", "backtrace", "Ljava/lang/Object;", false)
  | 1 => ("java/lang/Throwable", "detailMessage", "Ljava/lang/String;", false)
  | 2 => ("java/lang/Throwable", "cause", "Ljava/lang/Throwable;", false)
  | 3 => ("java/lang/Throwable", "stackTrace", "[Ljava/lang/StackTraceElement;", false)
  | 4 => ("java/lang/Throwable", "depth", "I", false)
  | _ => ("java/lang/Throwable", "suppressedExceptions", "Ljava/util/List;", false)
def tyJxde1cd : Nat → FieldType := fun k => match k with
  | 0 => .object "java/lang/Object"
  | 1 => .object "java/lang/String"
  | 2 => .object "java/lang/Throwable"
  | 3 => .array (.object "java/lang/StackTraceElement")
  | 4 => .int
  | _ => .object "java/util/List"
abbrev wsJxde1cd0 : List Cond := u_ws RJxde1cd TJxde1cd 6
theorem nmJxde1cd : ∀ a, a < 6 → ∀ b, b < 6 → a ≠ b → (TJxde1cd a).2.1 ≠ (TJxde1cd b).2.1 := by decide +kernel
theorem tyJxde1cd_ok : ∀ k, k < 6 → parseFieldDescriptor (TJxde1cd k).2.2.1 = some (tyJxde1cd k) := by decide +kernel
abbrev cJxde1cd_init_a7421 : ByteArray := prog_16_method_2_code
def yJxde1cd_init_a7421 : MethodName := ⟨RJxde1cd, "<init>", "(Ljava/lang/String;)V"⟩
def RJ0 : String := "java/lang/String"
def TJ0 : u_T := fun k => match k with
  | 0 => ("java/lang/String", "value", "[B", true)
  | _ => ("java/lang/String", "coder", "B", true)
def tyJ0 : Nat → FieldType := fun k => match k with
  | 0 => .array .byte
  | _ => .byte
abbrev wsJ00 : List Cond := u_ws RJ0 TJ0 2
theorem nmJ0 : ∀ a, a < 2 → ∀ b, b < 2 → a ≠ b → (TJ0 a).2.1 ≠ (TJ0 b).2.1 := by decide +kernel
theorem tyJ0_ok : ∀ k, k < 2 → parseFieldDescriptor (TJ0 k).2.2.1 = some (tyJ0 k) := by decide +kernel
def RJ7 : String := "java/util/Arrays"
def TJ7 : u_T := fun k => match k with
  | _ => ("", "", "", false)
def tyJ7 : Nat → FieldType := fun k => match k with
  | _ => .int
abbrev wsJ70 : List Cond := u_ws RJ7 TJ7 0
theorem nmJ7 : ∀ a, a < 0 → ∀ b, b < 0 → a ≠ b → (TJ7 a).2.1 ≠ (TJ7 b).2.1 := by decide +kernel
theorem tyJ7_ok : ∀ k, k < 0 → parseFieldDescriptor (TJ7 k).2.2.1 = some (tyJ7 k) := by decide +kernel
abbrev cJ7_fill_d0a16 : ByteArray := prog_20_method_101_code
def yJ7_fill_d0a16 : MethodName := ⟨RJ7, "fill", "([JJ)V"⟩
abbrev cJ7_fill_53178 : ByteArray := prog_20_method_103_code
def yJ7_fill_53178 : MethodName := ⟨RJ7, "fill", "([II)V"⟩
def RL : String := "IndexRangesLaw"
abbrev cL_hold : ByteArray := method_3_code
def yL_hold : MethodName := ⟨RL, "hold", "(LIndexRanges;IJ[J)I"⟩
abbrev cL_held : ByteArray := method_4_code
def yL_held : MethodName := ⟨RL, "held", "(LIndexRanges;I[J)I"⟩
abbrev cL_index : ByteArray := method_5_code
def yL_index : MethodName := ⟨RL, "index", "(LIndexRanges;I[J)I"⟩
abbrev cL_element : ByteArray := method_6_code
def yL_element : MethodName := ⟨RL, "element", "(LIndexRanges;IJ[J)I"⟩
abbrev cL_go : ByteArray := method_7_code
def yL_go : MethodName := ⟨RL, "go", "(LIndexRanges;IJ[J)I"⟩
abbrev cL_array : ByteArray := method_8_code
def yL_array : MethodName := ⟨RL, "array", "(LIndexRanges;I[J)I"⟩
abbrev cL_put : ByteArray := method_9_code
def yL_put : MethodName := ⟨RL, "put", "(LIndexRanges;II[J)I"⟩
abbrev cL_at : ByteArray := method_10_code
def yL_at : MethodName := ⟨RL, "at", "(LIndexRanges;I[J)I"⟩
abbrev cL_law : ByteArray := code
def yL_law : MethodName := ⟨RL, "law", "([I)Z"⟩
end
section
theorem dX0_init_0 : decode cX0_init 0 = .ok (.aload_n 0, 1) := by decide +kernel
theorem dX0_init_1 : decode cX0_init 1 = .ok (.iload_n 1, 1) := by decide +kernel
theorem dX0_init_2 : decode cX0_init 2 = .ok (.iconst 4, 1) := by decide +kernel
theorem dX0_init_3 : decode cX0_init 3 = .ok (.aload_n 2, 1) := by decide +kernel
theorem dX0_init_4 : decode cX0_init 4 = .ok (.getfield 3, 3) := by decide +kernel
theorem dX0_init_7 : decode cX0_init 7 = .ok (.aload_n 2, 1) := by decide +kernel
theorem dX0_init_8 : decode cX0_init 8 = .ok (.getfield 9, 3) := by decide +kernel
theorem dX0_init_11 : decode cX0_init 11 = .ok (.invokespecial 13, 3) := by decide +kernel
theorem dX0_init_14 : decode cX0_init 14 = .ok (.aload_n 0, 1) := by decide +kernel
theorem dX0_init_15 : decode cX0_init 15 = .ok (.aload_n 2, 1) := by decide +kernel
theorem dX0_init_16 : decode cX0_init 16 = .ok (.putfield 17, 3) := by decide +kernel
theorem dX0_init_19 : decode cX0_init 19 = .ok (.return_, 1) := by decide +kernel
theorem dX0_madeOf_0 : decode cX0_madeOf 0 = .ok (.iconst 1, 1) := by decide +kernel
theorem dX0_madeOf_1 : decode cX0_madeOf 1 = .ok (.ireturn, 1) := by decide +kernel
theorem dX0_place_0 : decode cX0_place 0 = .ok (.aload_n 0, 1) := by decide +kernel
theorem dX0_place_1 : decode cX0_place 1 = .ok (.getfield 17, 3) := by decide +kernel
theorem dX0_place_4 : decode cX0_place 4 = .ok (.aload_n 1, 1) := by decide +kernel
theorem dX0_place_5 : decode cX0_place 5 = .ok (.iload_n 2, 1) := by decide +kernel
theorem dX0_place_6 : decode cX0_place 6 = .ok (.iload_n 3, 1) := by decide +kernel
theorem dX0_place_7 : decode cX0_place 7 = .ok (.iconst 1, 1) := by decide +kernel
theorem dX0_place_8 : decode cX0_place 8 = .ok (.iadd, 1) := by decide +kernel
theorem dX0_place_9 : decode cX0_place 9 = .ok (.aload 4, 2) := by decide +kernel
theorem dX0_place_11 : decode cX0_place 11 = .ok (.invokevirtual 23, 3) := by decide +kernel
theorem dX0_place_14 : decode cX0_place 14 = .ok (.lstore 5, 2) := by decide +kernel
theorem dX0_place_16 : decode cX0_place 16 = .ok (.lload 5, 2) := by decide +kernel
theorem dX0_place_18 : decode cX0_place 18 = .ok (.ldc2_w 27, 3) := by decide +kernel
theorem dX0_place_21 : decode cX0_place 21 = .ok (.lcmp, 1) := by decide +kernel
theorem dX0_place_22 : decode cX0_place 22 = .ok (.ifCond .ne 9, 3) := by decide +kernel
theorem dX0_place_25 : decode cX0_place 25 = .ok (.ldc2_w 27, 3) := by decide +kernel
theorem dX0_place_28 : decode cX0_place 28 = .ok (.goto 12, 3) := by decide +kernel
theorem dX0_place_31 : decode cX0_place 31 = .ok (.aload_n 0, 1) := by decide +kernel
theorem dX0_place_32 : decode cX0_place 32 = .ok (.getfield 29, 3) := by decide +kernel
theorem dX0_place_35 : decode cX0_place 35 = .ok (.lconst 1, 1) := by decide +kernel
theorem dX0_place_36 : decode cX0_place 36 = .ok (.lsub, 1) := by decide +kernel
theorem dX0_place_37 : decode cX0_place 37 = .ok (.lload 5, 2) := by decide +kernel
theorem dX0_place_39 : decode cX0_place 39 = .ok (.lsub, 1) := by decide +kernel
theorem dX0_place_40 : decode cX0_place 40 = .ok (.lreturn, 1) := by decide +kernel
theorem dX0_fill_0 : decode cX0_fill 0 = .ok (.aload_n 0, 1) := by decide +kernel
theorem dX0_fill_1 : decode cX0_fill 1 = .ok (.getfield 17, 3) := by decide +kernel
theorem dX0_fill_4 : decode cX0_fill 4 = .ok (.aload_n 1, 1) := by decide +kernel
theorem dX0_fill_5 : decode cX0_fill 5 = .ok (.iload_n 2, 1) := by decide +kernel
theorem dX0_fill_6 : decode cX0_fill 6 = .ok (.aload_n 0, 1) := by decide +kernel
theorem dX0_fill_7 : decode cX0_fill 7 = .ok (.getfield 29, 3) := by decide +kernel
theorem dX0_fill_10 : decode cX0_fill 10 = .ok (.lconst 1, 1) := by decide +kernel
theorem dX0_fill_11 : decode cX0_fill 11 = .ok (.lsub, 1) := by decide +kernel
theorem dX0_fill_12 : decode cX0_fill 12 = .ok (.lload_n 3, 1) := by decide +kernel
theorem dX0_fill_13 : decode cX0_fill 13 = .ok (.lsub, 1) := by decide +kernel
theorem dX0_fill_14 : decode cX0_fill 14 = .ok (.invokevirtual 30, 3) := by decide +kernel
theorem dX0_fill_17 : decode cX0_fill 17 = .ok (.return_, 1) := by decide +kernel
theorem dX0_singleAt_0 : decode cX0_singleAt 0 = .ok (.aload_n 0, 1) := by decide +kernel
theorem dX0_singleAt_1 : decode cX0_singleAt 1 = .ok (.getfield 17, 3) := by decide +kernel
theorem dX0_singleAt_4 : decode cX0_singleAt 4 = .ok (.iload_n 1, 1) := by decide +kernel
theorem dX0_singleAt_5 : decode cX0_singleAt 5 = .ok (.invokevirtual 34, 3) := by decide +kernel
theorem dX0_singleAt_8 : decode cX0_singleAt 8 = .ok (.areturn, 1) := by decide +kernel
theorem dX1_init_0 : decode cX1_init 0 = .ok (.aload_n 0, 1) := by decide +kernel
theorem dX1_init_1 : decode cX1_init 1 = .ok (.iload_n 1, 1) := by decide +kernel
theorem dX1_init_2 : decode cX1_init 2 = .ok (.iload_n 2, 1) := by decide +kernel
theorem dX1_init_3 : decode cX1_init 3 = .ok (.iload_n 3, 1) := by decide +kernel
theorem dX1_init_4 : decode cX1_init 4 = .ok (.lload 4, 2) := by decide +kernel
theorem dX1_init_6 : decode cX1_init 6 = .ok (.invokespecial 3, 3) := by decide +kernel
theorem dX1_init_9 : decode cX1_init 9 = .ok (.aload_n 0, 1) := by decide +kernel
theorem dX1_init_10 : decode cX1_init 10 = .ok (.aload 6, 2) := by decide +kernel
theorem dX1_init_12 : decode cX1_init 12 = .ok (.putfield 9, 3) := by decide +kernel
theorem dX1_init_15 : decode cX1_init 15 = .ok (.return_, 1) := by decide +kernel
theorem dX1_madeOf_0 : decode cX1_madeOf 0 = .ok (.aload_n 0, 1) := by decide +kernel
theorem dX1_madeOf_1 : decode cX1_madeOf 1 = .ok (.getfield 9, 3) := by decide +kernel
theorem dX1_madeOf_4 : decode cX1_madeOf 4 = .ok (.arraylength, 1) := by decide +kernel
theorem dX1_madeOf_5 : decode cX1_madeOf 5 = .ok (.ireturn, 1) := by decide +kernel
theorem dX1_place_0 : decode cX1_place 0 = .ok (.lconst 0, 1) := by decide +kernel
theorem dX1_place_1 : decode cX1_place 1 = .ok (.lstore 5, 2) := by decide +kernel
theorem dX1_place_3 : decode cX1_place 3 = .ok (.iload_n 2, 1) := by decide +kernel
theorem dX1_place_4 : decode cX1_place 4 = .ok (.istore 7, 2) := by decide +kernel
theorem dX1_place_6 : decode cX1_place 6 = .ok (.aload_n 0, 1) := by decide +kernel
theorem dX1_place_7 : decode cX1_place 7 = .ok (.getfield 9, 3) := by decide +kernel
theorem dX1_place_10 : decode cX1_place 10 = .ok (.astore 8, 2) := by decide +kernel
theorem dX1_place_12 : decode cX1_place 12 = .ok (.aload 8, 2) := by decide +kernel
theorem dX1_place_14 : decode cX1_place 14 = .ok (.arraylength, 1) := by decide +kernel
theorem dX1_place_15 : decode cX1_place 15 = .ok (.istore 9, 2) := by decide +kernel
theorem dX1_place_17 : decode cX1_place 17 = .ok (.iconst 0, 1) := by decide +kernel
theorem dX1_place_18 : decode cX1_place 18 = .ok (.istore 10, 2) := by decide +kernel
theorem dX1_place_20 : decode cX1_place 20 = .ok (.iload 10, 2) := by decide +kernel
theorem dX1_place_22 : decode cX1_place 22 = .ok (.iload 9, 2) := by decide +kernel
theorem dX1_place_24 : decode cX1_place 24 = .ok (.if_icmp .ge 71, 3) := by decide +kernel
theorem dX1_place_27 : decode cX1_place 27 = .ok (.aload 8, 2) := by decide +kernel
theorem dX1_place_29 : decode cX1_place 29 = .ok (.iload 10, 2) := by decide +kernel
theorem dX1_place_31 : decode cX1_place 31 = .ok (.aaload, 1) := by decide +kernel
theorem dX1_place_32 : decode cX1_place 32 = .ok (.astore 11, 2) := by decide +kernel
theorem dX1_place_34 : decode cX1_place 34 = .ok (.aload 11, 2) := by decide +kernel
theorem dX1_place_36 : decode cX1_place 36 = .ok (.aload_n 1, 1) := by decide +kernel
theorem dX1_place_37 : decode cX1_place 37 = .ok (.iload 7, 2) := by decide +kernel
theorem dX1_place_39 : decode cX1_place 39 = .ok (.iload_n 3, 1) := by decide +kernel
theorem dX1_place_40 : decode cX1_place 40 = .ok (.iconst 1, 1) := by decide +kernel
theorem dX1_place_41 : decode cX1_place 41 = .ok (.iadd, 1) := by decide +kernel
theorem dX1_place_42 : decode cX1_place 42 = .ok (.aload 4, 2) := by decide +kernel
theorem dX1_place_44 : decode cX1_place 44 = .ok (.invokevirtual 15, 3) := by decide +kernel
theorem dX1_place_47 : decode cX1_place 47 = .ok (.lstore 12, 2) := by decide +kernel
theorem dX1_place_49 : decode cX1_place 49 = .ok (.lload 12, 2) := by decide +kernel
theorem dX1_place_51 : decode cX1_place 51 = .ok (.ldc2_w 19, 3) := by decide +kernel
theorem dX1_place_54 : decode cX1_place 54 = .ok (.lcmp, 1) := by decide +kernel
theorem dX1_place_55 : decode cX1_place 55 = .ok (.ifCond .ne 7, 3) := by decide +kernel
theorem dX1_place_58 : decode cX1_place 58 = .ok (.ldc2_w 19, 3) := by decide +kernel
theorem dX1_place_61 : decode cX1_place 61 = .ok (.lreturn, 1) := by decide +kernel
theorem dX1_place_62 : decode cX1_place 62 = .ok (.lload 5, 2) := by decide +kernel
theorem dX1_place_64 : decode cX1_place 64 = .ok (.aload 11, 2) := by decide +kernel
theorem dX1_place_66 : decode cX1_place 66 = .ok (.getfield 21, 3) := by decide +kernel
theorem dX1_place_69 : decode cX1_place 69 = .ok (.invokestatic 25, 3) := by decide +kernel
theorem dX1_place_72 : decode cX1_place 72 = .ok (.lload 12, 2) := by decide +kernel
theorem dX1_place_74 : decode cX1_place 74 = .ok (.invokestatic 29, 3) := by decide +kernel
theorem dX1_place_77 : decode cX1_place 77 = .ok (.lstore 5, 2) := by decide +kernel
theorem dX1_place_79 : decode cX1_place 79 = .ok (.iload 7, 2) := by decide +kernel
theorem dX1_place_81 : decode cX1_place 81 = .ok (.aload 11, 2) := by decide +kernel
theorem dX1_place_83 : decode cX1_place 83 = .ok (.getfield 32, 3) := by decide +kernel
theorem dX1_place_86 : decode cX1_place 86 = .ok (.iadd, 1) := by decide +kernel
theorem dX1_place_87 : decode cX1_place 87 = .ok (.istore 7, 2) := by decide +kernel
theorem dX1_place_89 : decode cX1_place 89 = .ok (.iinc 10 1, 3) := by decide +kernel
theorem dX1_place_92 : decode cX1_place 92 = .ok (.goto (-72), 3) := by decide +kernel
theorem dX1_place_95 : decode cX1_place 95 = .ok (.lload 5, 2) := by decide +kernel
theorem dX1_place_97 : decode cX1_place 97 = .ok (.lreturn, 1) := by decide +kernel
theorem dX1_fill_0 : decode cX1_fill 0 = .ok (.lload_n 3, 1) := by decide +kernel
theorem dX1_fill_1 : decode cX1_fill 1 = .ok (.lstore 5, 2) := by decide +kernel
theorem dX1_fill_3 : decode cX1_fill 3 = .ok (.iload_n 2, 1) := by decide +kernel
theorem dX1_fill_4 : decode cX1_fill 4 = .ok (.aload_n 0, 1) := by decide +kernel
theorem dX1_fill_5 : decode cX1_fill 5 = .ok (.getfield 36, 3) := by decide +kernel
theorem dX1_fill_8 : decode cX1_fill 8 = .ok (.iadd, 1) := by decide +kernel
theorem dX1_fill_9 : decode cX1_fill 9 = .ok (.istore 7, 2) := by decide +kernel
theorem dX1_fill_11 : decode cX1_fill 11 = .ok (.aload_n 0, 1) := by decide +kernel
theorem dX1_fill_12 : decode cX1_fill 12 = .ok (.getfield 9, 3) := by decide +kernel
theorem dX1_fill_15 : decode cX1_fill 15 = .ok (.arraylength, 1) := by decide +kernel
theorem dX1_fill_16 : decode cX1_fill 16 = .ok (.iconst 1, 1) := by decide +kernel
theorem dX1_fill_17 : decode cX1_fill 17 = .ok (.isub, 1) := by decide +kernel
theorem dX1_fill_18 : decode cX1_fill 18 = .ok (.istore 8, 2) := by decide +kernel
theorem dX1_fill_20 : decode cX1_fill 20 = .ok (.iload 8, 2) := by decide +kernel
theorem dX1_fill_22 : decode cX1_fill 22 = .ok (.ifCond .lt 90, 3) := by decide +kernel
theorem dX1_fill_25 : decode cX1_fill 25 = .ok (.aload_n 0, 1) := by decide +kernel
theorem dX1_fill_26 : decode cX1_fill 26 = .ok (.getfield 9, 3) := by decide +kernel
theorem dX1_fill_29 : decode cX1_fill 29 = .ok (.iload 8, 2) := by decide +kernel
theorem dX1_fill_31 : decode cX1_fill 31 = .ok (.aaload, 1) := by decide +kernel
theorem dX1_fill_32 : decode cX1_fill 32 = .ok (.astore 9, 2) := by decide +kernel
theorem dX1_fill_34 : decode cX1_fill 34 = .ok (.iload 7, 2) := by decide +kernel
theorem dX1_fill_36 : decode cX1_fill 36 = .ok (.aload 9, 2) := by decide +kernel
theorem dX1_fill_38 : decode cX1_fill 38 = .ok (.getfield 32, 3) := by decide +kernel
theorem dX1_fill_41 : decode cX1_fill 41 = .ok (.isub, 1) := by decide +kernel
theorem dX1_fill_42 : decode cX1_fill 42 = .ok (.istore 7, 2) := by decide +kernel
theorem dX1_fill_44 : decode cX1_fill 44 = .ok (.aload 9, 2) := by decide +kernel
theorem dX1_fill_46 : decode cX1_fill 46 = .ok (.getfield 21, 3) := by decide +kernel
theorem dX1_fill_49 : decode cX1_fill 49 = .ok (.lconst 0, 1) := by decide +kernel
theorem dX1_fill_50 : decode cX1_fill 50 = .ok (.lcmp, 1) := by decide +kernel
theorem dX1_fill_51 : decode cX1_fill 51 = .ok (.ifCond .le 7, 3) := by decide +kernel
theorem dX1_fill_54 : decode cX1_fill 54 = .ok (.iconst 1, 1) := by decide +kernel
theorem dX1_fill_55 : decode cX1_fill 55 = .ok (.goto 4, 3) := by decide +kernel
theorem dX1_fill_58 : decode cX1_fill 58 = .ok (.iconst 0, 1) := by decide +kernel
theorem dX1_fill_59 : decode cX1_fill 59 = .ok (.istore 10, 2) := by decide +kernel
theorem dX1_fill_61 : decode cX1_fill 61 = .ok (.aload 9, 2) := by decide +kernel
theorem dX1_fill_63 : decode cX1_fill 63 = .ok (.aload_n 1, 1) := by decide +kernel
theorem dX1_fill_64 : decode cX1_fill 64 = .ok (.iload 7, 2) := by decide +kernel
theorem dX1_fill_66 : decode cX1_fill 66 = .ok (.iload 10, 2) := by decide +kernel
theorem dX1_fill_68 : decode cX1_fill 68 = .ok (.ifCond .eq 14, 3) := by decide +kernel
theorem dX1_fill_71 : decode cX1_fill 71 = .ok (.lload 5, 2) := by decide +kernel
theorem dX1_fill_73 : decode cX1_fill 73 = .ok (.aload 9, 2) := by decide +kernel
theorem dX1_fill_75 : decode cX1_fill 75 = .ok (.getfield 21, 3) := by decide +kernel
theorem dX1_fill_78 : decode cX1_fill 78 = .ok (.lrem, 1) := by decide +kernel
theorem dX1_fill_79 : decode cX1_fill 79 = .ok (.goto 5, 3) := by decide +kernel
theorem dX1_fill_82 : decode cX1_fill 82 = .ok (.lload 5, 2) := by decide +kernel
theorem dX1_fill_84 : decode cX1_fill 84 = .ok (.invokevirtual 37, 3) := by decide +kernel
theorem dX1_fill_87 : decode cX1_fill 87 = .ok (.iload 10, 2) := by decide +kernel
theorem dX1_fill_89 : decode cX1_fill 89 = .ok (.ifCond .eq 14, 3) := by decide +kernel
theorem dX1_fill_92 : decode cX1_fill 92 = .ok (.lload 5, 2) := by decide +kernel
theorem dX1_fill_94 : decode cX1_fill 94 = .ok (.aload 9, 2) := by decide +kernel
theorem dX1_fill_96 : decode cX1_fill 96 = .ok (.getfield 21, 3) := by decide +kernel
theorem dX1_fill_99 : decode cX1_fill 99 = .ok (.ldiv, 1) := by decide +kernel
theorem dX1_fill_100 : decode cX1_fill 100 = .ok (.goto 4, 3) := by decide +kernel
theorem dX1_fill_103 : decode cX1_fill 103 = .ok (.lconst 0, 1) := by decide +kernel
theorem dX1_fill_104 : decode cX1_fill 104 = .ok (.lstore 5, 2) := by decide +kernel
theorem dX1_fill_106 : decode cX1_fill 106 = .ok (.iinc 8 (-1), 3) := by decide +kernel
theorem dX1_fill_109 : decode cX1_fill 109 = .ok (.goto (-89), 3) := by decide +kernel
theorem dX1_fill_112 : decode cX1_fill 112 = .ok (.return_, 1) := by decide +kernel
theorem dX1_singleAt_0 : decode cX1_singleAt 0 = .ok (.iload_n 1, 1) := by decide +kernel
theorem dX1_singleAt_1 : decode cX1_singleAt 1 = .ok (.istore_n 2, 1) := by decide +kernel
theorem dX1_singleAt_2 : decode cX1_singleAt 2 = .ok (.aload_n 0, 1) := by decide +kernel
theorem dX1_singleAt_3 : decode cX1_singleAt 3 = .ok (.getfield 9, 3) := by decide +kernel
theorem dX1_singleAt_6 : decode cX1_singleAt 6 = .ok (.astore_n 3, 1) := by decide +kernel
theorem dX1_singleAt_7 : decode cX1_singleAt 7 = .ok (.aload_n 3, 1) := by decide +kernel
theorem dX1_singleAt_8 : decode cX1_singleAt 8 = .ok (.arraylength, 1) := by decide +kernel
theorem dX1_singleAt_9 : decode cX1_singleAt 9 = .ok (.istore 4, 2) := by decide +kernel
theorem dX1_singleAt_11 : decode cX1_singleAt 11 = .ok (.iconst 0, 1) := by decide +kernel
theorem dX1_singleAt_12 : decode cX1_singleAt 12 = .ok (.istore 5, 2) := by decide +kernel
theorem dX1_singleAt_14 : decode cX1_singleAt 14 = .ok (.iload 5, 2) := by decide +kernel
theorem dX1_singleAt_16 : decode cX1_singleAt 16 = .ok (.iload 4, 2) := by decide +kernel
theorem dX1_singleAt_18 : decode cX1_singleAt 18 = .ok (.if_icmp .ge 39, 3) := by decide +kernel
theorem dX1_singleAt_21 : decode cX1_singleAt 21 = .ok (.aload_n 3, 1) := by decide +kernel
theorem dX1_singleAt_22 : decode cX1_singleAt 22 = .ok (.iload 5, 2) := by decide +kernel
theorem dX1_singleAt_24 : decode cX1_singleAt 24 = .ok (.aaload, 1) := by decide +kernel
theorem dX1_singleAt_25 : decode cX1_singleAt 25 = .ok (.astore 6, 2) := by decide +kernel
theorem dX1_singleAt_27 : decode cX1_singleAt 27 = .ok (.iload_n 2, 1) := by decide +kernel
theorem dX1_singleAt_28 : decode cX1_singleAt 28 = .ok (.aload 6, 2) := by decide +kernel
theorem dX1_singleAt_30 : decode cX1_singleAt 30 = .ok (.getfield 32, 3) := by decide +kernel
theorem dX1_singleAt_33 : decode cX1_singleAt 33 = .ok (.if_icmp .ge 10, 3) := by decide +kernel
theorem dX1_singleAt_36 : decode cX1_singleAt 36 = .ok (.aload 6, 2) := by decide +kernel
theorem dX1_singleAt_38 : decode cX1_singleAt 38 = .ok (.iload_n 2, 1) := by decide +kernel
theorem dX1_singleAt_39 : decode cX1_singleAt 39 = .ok (.invokevirtual 41, 3) := by decide +kernel
theorem dX1_singleAt_42 : decode cX1_singleAt 42 = .ok (.areturn, 1) := by decide +kernel
theorem dX1_singleAt_43 : decode cX1_singleAt 43 = .ok (.iload_n 2, 1) := by decide +kernel
theorem dX1_singleAt_44 : decode cX1_singleAt 44 = .ok (.aload 6, 2) := by decide +kernel
theorem dX1_singleAt_46 : decode cX1_singleAt 46 = .ok (.getfield 32, 3) := by decide +kernel
theorem dX1_singleAt_49 : decode cX1_singleAt 49 = .ok (.isub, 1) := by decide +kernel
theorem dX1_singleAt_50 : decode cX1_singleAt 50 = .ok (.istore_n 2, 1) := by decide +kernel
theorem dX1_singleAt_51 : decode cX1_singleAt 51 = .ok (.iinc 5 1, 3) := by decide +kernel
theorem dX1_singleAt_54 : decode cX1_singleAt 54 = .ok (.goto (-40), 3) := by decide +kernel
theorem dX1_singleAt_57 : decode cX1_singleAt 57 = .ok (.aconst_null, 1) := by decide +kernel
theorem dX1_singleAt_58 : decode cX1_singleAt 58 = .ok (.areturn, 1) := by decide +kernel
theorem dX2_init_0 : decode cX2_init 0 = .ok (.aload_n 0, 1) := by decide +kernel
theorem dX2_init_1 : decode cX2_init 1 = .ok (.invokespecial 3, 3) := by decide +kernel
theorem dX2_init_4 : decode cX2_init 4 = .ok (.aload_n 0, 1) := by decide +kernel
theorem dX2_init_5 : decode cX2_init 5 = .ok (.bipush 8, 2) := by decide +kernel
theorem dX2_init_7 : decode cX2_init 7 = .ok (.newarray .long, 2) := by decide +kernel
theorem dX2_init_9 : decode cX2_init 9 = .ok (.putfield 9, 3) := by decide +kernel
theorem dX2_init_12 : decode cX2_init 12 = .ok (.return_, 1) := by decide +kernel
theorem dX2_look_0 : decode cX2_look 0 = .ok (.iload_n 1, 1) := by decide +kernel
theorem dX2_look_1 : decode cX2_look 1 = .ok (.ifCond .lt 18, 3) := by decide +kernel
theorem dX2_look_4 : decode cX2_look 4 = .ok (.iload_n 1, 1) := by decide +kernel
theorem dX2_look_5 : decode cX2_look 5 = .ok (.bipush 8, 2) := by decide +kernel
theorem dX2_look_7 : decode cX2_look 7 = .ok (.if_icmp .ge 12, 3) := by decide +kernel
theorem dX2_look_10 : decode cX2_look 10 = .ok (.aload_n 0, 1) := by decide +kernel
theorem dX2_look_11 : decode cX2_look 11 = .ok (.getfield 9, 3) := by decide +kernel
theorem dX2_look_14 : decode cX2_look 14 = .ok (.iload_n 1, 1) := by decide +kernel
theorem dX2_look_15 : decode cX2_look 15 = .ok (.laload, 1) := by decide +kernel
theorem dX2_look_16 : decode cX2_look 16 = .ok (.goto 4, 3) := by decide +kernel
theorem dX2_look_19 : decode cX2_look 19 = .ok (.lconst 0, 1) := by decide +kernel
theorem dX2_look_20 : decode cX2_look 20 = .ok (.lreturn, 1) := by decide +kernel
theorem dX2_take_0 : decode cX2_take 0 = .ok (.iload_n 1, 1) := by decide +kernel
theorem dX2_take_1 : decode cX2_take 1 = .ok (.ifCond .lt 16, 3) := by decide +kernel
theorem dX2_take_4 : decode cX2_take 4 = .ok (.iload_n 1, 1) := by decide +kernel
theorem dX2_take_5 : decode cX2_take 5 = .ok (.bipush 8, 2) := by decide +kernel
theorem dX2_take_7 : decode cX2_take 7 = .ok (.if_icmp .ge 10, 3) := by decide +kernel
theorem dX2_take_10 : decode cX2_take 10 = .ok (.aload_n 0, 1) := by decide +kernel
theorem dX2_take_11 : decode cX2_take 11 = .ok (.getfield 9, 3) := by decide +kernel
theorem dX2_take_14 : decode cX2_take 14 = .ok (.iload_n 1, 1) := by decide +kernel
theorem dX2_take_15 : decode cX2_take 15 = .ok (.lload_n 2, 1) := by decide +kernel
theorem dX2_take_16 : decode cX2_take 16 = .ok (.lastore, 1) := by decide +kernel
theorem dX2_take_17 : decode cX2_take 17 = .ok (.return_, 1) := by decide +kernel
theorem dX2_drop_0 : decode cX2_drop 0 = .ok (.aload_n 0, 1) := by decide +kernel
theorem dX2_drop_1 : decode cX2_drop 1 = .ok (.getfield 9, 3) := by decide +kernel
theorem dX2_drop_4 : decode cX2_drop 4 = .ok (.lconst 0, 1) := by decide +kernel
theorem dX2_drop_5 : decode cX2_drop 5 = .ok (.invokestatic 15, 3) := by decide +kernel
theorem dX2_drop_8 : decode cX2_drop 8 = .ok (.return_, 1) := by decide +kernel
theorem dX3_init_0 : decode cX3_init 0 = .ok (.aload_n 0, 1) := by decide +kernel
theorem dX3_init_1 : decode cX3_init 1 = .ok (.invokespecial 1, 3) := by decide +kernel
theorem dX3_init_4 : decode cX3_init 4 = .ok (.return_, 1) := by decide +kernel
theorem dX3_note_0 : decode cX3_note 0 = .ok (.aload_n 0, 1) := by decide +kernel
theorem dX3_note_1 : decode cX3_note 1 = .ok (.dup, 1) := by decide +kernel
theorem dX3_note_2 : decode cX3_note 2 = .ok (.getfield 7, 3) := by decide +kernel
theorem dX3_note_5 : decode cX3_note 5 = .ok (.iconst 1, 1) := by decide +kernel
theorem dX3_note_6 : decode cX3_note 6 = .ok (.iadd, 1) := by decide +kernel
theorem dX3_note_7 : decode cX3_note 7 = .ok (.putfield 7, 3) := by decide +kernel
theorem dX3_note_10 : decode cX3_note 10 = .ok (.aload_n 0, 1) := by decide +kernel
theorem dX3_note_11 : decode cX3_note 11 = .ok (.iload_n 1, 1) := by decide +kernel
theorem dX3_note_12 : decode cX3_note 12 = .ok (.putfield 13, 3) := by decide +kernel
theorem dX3_note_15 : decode cX3_note 15 = .ok (.aload_n 0, 1) := by decide +kernel
theorem dX3_note_16 : decode cX3_note 16 = .ok (.iload_n 2, 1) := by decide +kernel
theorem dX3_note_17 : decode cX3_note 17 = .ok (.putfield 16, 3) := by decide +kernel
theorem dX3_note_20 : decode cX3_note 20 = .ok (.aload_n 0, 1) := by decide +kernel
theorem dX3_note_21 : decode cX3_note 21 = .ok (.iload_n 3, 1) := by decide +kernel
theorem dX3_note_22 : decode cX3_note 22 = .ok (.putfield 19, 3) := by decide +kernel
theorem dX3_note_25 : decode cX3_note 25 = .ok (.return_, 1) := by decide +kernel
theorem dX3_forget_0 : decode cX3_forget 0 = .ok (.aload_n 0, 1) := by decide +kernel
theorem dX3_forget_1 : decode cX3_forget 1 = .ok (.iconst 0, 1) := by decide +kernel
theorem dX3_forget_2 : decode cX3_forget 2 = .ok (.putfield 7, 3) := by decide +kernel
theorem dX3_forget_5 : decode cX3_forget 5 = .ok (.return_, 1) := by decide +kernel
theorem dX4_init_0 : decode cX4_init 0 = .ok (.aload_n 0, 1) := by decide +kernel
theorem dX4_init_1 : decode cX4_init 1 = .ok (.iload_n 1, 1) := by decide +kernel
theorem dX4_init_2 : decode cX4_init 2 = .ok (.iconst 2, 1) := by decide +kernel
theorem dX4_init_3 : decode cX4_init 3 = .ok (.iload 4, 2) := by decide +kernel
theorem dX4_init_5 : decode cX4_init 5 = .ok (.i2l, 1) := by decide +kernel
theorem dX4_init_6 : decode cX4_init 6 = .ok (.invokespecial 3, 3) := by decide +kernel
theorem dX4_init_9 : decode cX4_init 9 = .ok (.aload_n 0, 1) := by decide +kernel
theorem dX4_init_10 : decode cX4_init 10 = .ok (.iload_n 2, 1) := by decide +kernel
theorem dX4_init_11 : decode cX4_init 11 = .ok (.putfield 9, 3) := by decide +kernel
theorem dX4_init_14 : decode cX4_init 14 = .ok (.aload_n 0, 1) := by decide +kernel
theorem dX4_init_15 : decode cX4_init 15 = .ok (.iload_n 3, 1) := by decide +kernel
theorem dX4_init_16 : decode cX4_init 16 = .ok (.putfield 15, 3) := by decide +kernel
theorem dX4_init_19 : decode cX4_init 19 = .ok (.return_, 1) := by decide +kernel
theorem dX4_placeOf_0 : decode cX4_placeOf 0 = .ok (.lload_n 1, 1) := by decide +kernel
theorem dX4_placeOf_1 : decode cX4_placeOf 1 = .ok (.lconst 0, 1) := by decide +kernel
theorem dX4_placeOf_2 : decode cX4_placeOf 2 = .ok (.lcmp, 1) := by decide +kernel
theorem dX4_placeOf_3 : decode cX4_placeOf 3 = .ok (.ifCond .lt 13, 3) := by decide +kernel
theorem dX4_placeOf_6 : decode cX4_placeOf 6 = .ok (.lload_n 1, 1) := by decide +kernel
theorem dX4_placeOf_7 : decode cX4_placeOf 7 = .ok (.aload_n 0, 1) := by decide +kernel
theorem dX4_placeOf_8 : decode cX4_placeOf 8 = .ok (.getfield 9, 3) := by decide +kernel
theorem dX4_placeOf_11 : decode cX4_placeOf 11 = .ok (.i2l, 1) := by decide +kernel
theorem dX4_placeOf_12 : decode cX4_placeOf 12 = .ok (.lcmp, 1) := by decide +kernel
theorem dX4_placeOf_13 : decode cX4_placeOf 13 = .ok (.ifCond .lt 7, 3) := by decide +kernel
theorem dX4_placeOf_16 : decode cX4_placeOf 16 = .ok (.ldc2_w 18, 3) := by decide +kernel
theorem dX4_placeOf_19 : decode cX4_placeOf 19 = .ok (.lreturn, 1) := by decide +kernel
theorem dX4_placeOf_20 : decode cX4_placeOf 20 = .ok (.lload_n 1, 1) := by decide +kernel
theorem dX4_placeOf_21 : decode cX4_placeOf 21 = .ok (.aload_n 0, 1) := by decide +kernel
theorem dX4_placeOf_22 : decode cX4_placeOf 22 = .ok (.getfield 15, 3) := by decide +kernel
theorem dX4_placeOf_25 : decode cX4_placeOf 25 = .ok (.i2l, 1) := by decide +kernel
theorem dX4_placeOf_26 : decode cX4_placeOf 26 = .ok (.lcmp, 1) := by decide +kernel
theorem dX4_placeOf_27 : decode cX4_placeOf 27 = .ok (.ifCond .lt 13, 3) := by decide +kernel
theorem dX4_placeOf_30 : decode cX4_placeOf 30 = .ok (.lload_n 1, 1) := by decide +kernel
theorem dX4_placeOf_31 : decode cX4_placeOf 31 = .ok (.aload_n 0, 1) := by decide +kernel
theorem dX4_placeOf_32 : decode cX4_placeOf 32 = .ok (.getfield 15, 3) := by decide +kernel
theorem dX4_placeOf_35 : decode cX4_placeOf 35 = .ok (.i2l, 1) := by decide +kernel
theorem dX4_placeOf_36 : decode cX4_placeOf 36 = .ok (.lsub, 1) := by decide +kernel
theorem dX4_placeOf_37 : decode cX4_placeOf 37 = .ok (.goto 16, 3) := by decide +kernel
theorem dX4_placeOf_40 : decode cX4_placeOf 40 = .ok (.lload_n 1, 1) := by decide +kernel
theorem dX4_placeOf_41 : decode cX4_placeOf 41 = .ok (.aload_n 0, 1) := by decide +kernel
theorem dX4_placeOf_42 : decode cX4_placeOf 42 = .ok (.getfield 15, 3) := by decide +kernel
theorem dX4_placeOf_45 : decode cX4_placeOf 45 = .ok (.i2l, 1) := by decide +kernel
theorem dX4_placeOf_46 : decode cX4_placeOf 46 = .ok (.lsub, 1) := by decide +kernel
theorem dX4_placeOf_47 : decode cX4_placeOf 47 = .ok (.aload_n 0, 1) := by decide +kernel
theorem dX4_placeOf_48 : decode cX4_placeOf 48 = .ok (.getfield 9, 3) := by decide +kernel
theorem dX4_placeOf_51 : decode cX4_placeOf 51 = .ok (.i2l, 1) := by decide +kernel
theorem dX4_placeOf_52 : decode cX4_placeOf 52 = .ok (.ladd, 1) := by decide +kernel
theorem dX4_placeOf_53 : decode cX4_placeOf 53 = .ok (.lstore_n 3, 1) := by decide +kernel
theorem dX4_placeOf_54 : decode cX4_placeOf 54 = .ok (.lload_n 3, 1) := by decide +kernel
theorem dX4_placeOf_55 : decode cX4_placeOf 55 = .ok (.aload_n 0, 1) := by decide +kernel
theorem dX4_placeOf_56 : decode cX4_placeOf 56 = .ok (.getfield 20, 3) := by decide +kernel
theorem dX4_placeOf_59 : decode cX4_placeOf 59 = .ok (.lcmp, 1) := by decide +kernel
theorem dX4_placeOf_60 : decode cX4_placeOf 60 = .ok (.ifCond .ge 7, 3) := by decide +kernel
theorem dX4_placeOf_63 : decode cX4_placeOf 63 = .ok (.lload_n 3, 1) := by decide +kernel
theorem dX4_placeOf_64 : decode cX4_placeOf 64 = .ok (.goto 6, 3) := by decide +kernel
theorem dX4_placeOf_67 : decode cX4_placeOf 67 = .ok (.ldc2_w 18, 3) := by decide +kernel
theorem dX4_placeOf_70 : decode cX4_placeOf 70 = .ok (.lreturn, 1) := by decide +kernel
theorem dX4_valueAt_0 : decode cX4_valueAt 0 = .ok (.aload_n 0, 1) := by decide +kernel
theorem dX4_valueAt_1 : decode cX4_valueAt 1 = .ok (.getfield 15, 3) := by decide +kernel
theorem dX4_valueAt_4 : decode cX4_valueAt 4 = .ok (.i2l, 1) := by decide +kernel
theorem dX4_valueAt_5 : decode cX4_valueAt 5 = .ok (.lload_n 1, 1) := by decide +kernel
theorem dX4_valueAt_6 : decode cX4_valueAt 6 = .ok (.ladd, 1) := by decide +kernel
theorem dX4_valueAt_7 : decode cX4_valueAt 7 = .ok (.lstore_n 3, 1) := by decide +kernel
theorem dX4_valueAt_8 : decode cX4_valueAt 8 = .ok (.lload_n 3, 1) := by decide +kernel
theorem dX4_valueAt_9 : decode cX4_valueAt 9 = .ok (.aload_n 0, 1) := by decide +kernel
theorem dX4_valueAt_10 : decode cX4_valueAt 10 = .ok (.getfield 9, 3) := by decide +kernel
theorem dX4_valueAt_13 : decode cX4_valueAt 13 = .ok (.i2l, 1) := by decide +kernel
theorem dX4_valueAt_14 : decode cX4_valueAt 14 = .ok (.lcmp, 1) := by decide +kernel
theorem dX4_valueAt_15 : decode cX4_valueAt 15 = .ok (.ifCond .ge 7, 3) := by decide +kernel
theorem dX4_valueAt_18 : decode cX4_valueAt 18 = .ok (.lload_n 3, 1) := by decide +kernel
theorem dX4_valueAt_19 : decode cX4_valueAt 19 = .ok (.goto 10, 3) := by decide +kernel
theorem dX4_valueAt_22 : decode cX4_valueAt 22 = .ok (.lload_n 3, 1) := by decide +kernel
theorem dX4_valueAt_23 : decode cX4_valueAt 23 = .ok (.aload_n 0, 1) := by decide +kernel
theorem dX4_valueAt_24 : decode cX4_valueAt 24 = .ok (.getfield 9, 3) := by decide +kernel
theorem dX4_valueAt_27 : decode cX4_valueAt 27 = .ok (.i2l, 1) := by decide +kernel
theorem dX4_valueAt_28 : decode cX4_valueAt 28 = .ok (.lsub, 1) := by decide +kernel
theorem dX4_valueAt_29 : decode cX4_valueAt 29 = .ok (.lreturn, 1) := by decide +kernel
theorem dX4_liesIn_0 : decode cX4_liesIn 0 = .ok (.aload_n 0, 1) := by decide +kernel
theorem dX4_liesIn_1 : decode cX4_liesIn 1 = .ok (.aload_n 1, 1) := by decide +kernel
theorem dX4_liesIn_2 : decode cX4_liesIn 2 = .ok (.invokevirtual 24, 3) := by decide +kernel
theorem dX4_liesIn_5 : decode cX4_liesIn 5 = .ok (.ireturn, 1) := by decide +kernel
theorem dX5_init_0 : decode cX5_init 0 = .ok (.aload_n 0, 1) := by decide +kernel
theorem dX5_init_1 : decode cX5_init 1 = .ok (.invokespecial 3, 3) := by decide +kernel
theorem dX5_init_4 : decode cX5_init 4 = .ok (.aload_n 0, 1) := by decide +kernel
theorem dX5_init_5 : decode cX5_init 5 = .ok (.iload_n 1, 1) := by decide +kernel
theorem dX5_init_6 : decode cX5_init 6 = .ok (.putfield 9, 3) := by decide +kernel
theorem dX5_init_9 : decode cX5_init 9 = .ok (.aload_n 0, 1) := by decide +kernel
theorem dX5_init_10 : decode cX5_init 10 = .ok (.iload_n 2, 1) := by decide +kernel
theorem dX5_init_11 : decode cX5_init 11 = .ok (.putfield 15, 3) := by decide +kernel
theorem dX5_init_14 : decode cX5_init 14 = .ok (.aload_n 0, 1) := by decide +kernel
theorem dX5_init_15 : decode cX5_init 15 = .ok (.iload_n 3, 1) := by decide +kernel
theorem dX5_init_16 : decode cX5_init 16 = .ok (.putfield 18, 3) := by decide +kernel
theorem dX5_init_19 : decode cX5_init 19 = .ok (.aload_n 0, 1) := by decide +kernel
theorem dX5_init_20 : decode cX5_init 20 = .ok (.lload 4, 2) := by decide +kernel
theorem dX5_init_22 : decode cX5_init 22 = .ok (.putfield 21, 3) := by decide +kernel
theorem dX5_init_25 : decode cX5_init 25 = .ok (.return_, 1) := by decide +kernel
theorem dX5_reaches_0 : decode cX5_reaches 0 = .ok (.lload_n 1, 1) := by decide +kernel
theorem dX5_reaches_1 : decode cX5_reaches 1 = .ok (.lconst 0, 1) := by decide +kernel
theorem dX5_reaches_2 : decode cX5_reaches 2 = .ok (.lcmp, 1) := by decide +kernel
theorem dX5_reaches_3 : decode cX5_reaches 3 = .ok (.ifCond .lt 27, 3) := by decide +kernel
theorem dX5_reaches_6 : decode cX5_reaches 6 = .ok (.aload_n 0, 1) := by decide +kernel
theorem dX5_reaches_7 : decode cX5_reaches 7 = .ok (.getfield 21, 3) := by decide +kernel
theorem dX5_reaches_10 : decode cX5_reaches 10 = .ok (.ldc2_w 25, 3) := by decide +kernel
theorem dX5_reaches_13 : decode cX5_reaches 13 = .ok (.lcmp, 1) := by decide +kernel
theorem dX5_reaches_14 : decode cX5_reaches 14 = .ok (.ifCond .eq 12, 3) := by decide +kernel
theorem dX5_reaches_17 : decode cX5_reaches 17 = .ok (.lload_n 1, 1) := by decide +kernel
theorem dX5_reaches_18 : decode cX5_reaches 18 = .ok (.aload_n 0, 1) := by decide +kernel
theorem dX5_reaches_19 : decode cX5_reaches 19 = .ok (.getfield 21, 3) := by decide +kernel
theorem dX5_reaches_22 : decode cX5_reaches 22 = .ok (.lcmp, 1) := by decide +kernel
theorem dX5_reaches_23 : decode cX5_reaches 23 = .ok (.ifCond .ge 7, 3) := by decide +kernel
theorem dX5_reaches_26 : decode cX5_reaches 26 = .ok (.iconst 1, 1) := by decide +kernel
theorem dX5_reaches_27 : decode cX5_reaches 27 = .ok (.goto 4, 3) := by decide +kernel
theorem dX5_reaches_30 : decode cX5_reaches 30 = .ok (.iconst 0, 1) := by decide +kernel
theorem dX5_reaches_31 : decode cX5_reaches 31 = .ok (.ireturn, 1) := by decide +kernel
theorem dX6_init_0 : decode cX6_init 0 = .ok (.aload_n 0, 1) := by decide +kernel
theorem dX6_init_1 : decode cX6_init 1 = .ok (.iload_n 1, 1) := by decide +kernel
theorem dX6_init_2 : decode cX6_init 2 = .ok (.iload_n 2, 1) := by decide +kernel
theorem dX6_init_3 : decode cX6_init 3 = .ok (.lload 8, 2) := by decide +kernel
theorem dX6_init_5 : decode cX6_init 5 = .ok (.invokespecial 3, 3) := by decide +kernel
theorem dX6_init_8 : decode cX6_init 8 = .ok (.aload_n 0, 1) := by decide +kernel
theorem dX6_init_9 : decode cX6_init 9 = .ok (.lload_n 3, 1) := by decide +kernel
theorem dX6_init_10 : decode cX6_init 10 = .ok (.putfield 9, 3) := by decide +kernel
theorem dX6_init_13 : decode cX6_init 13 = .ok (.aload_n 0, 1) := by decide +kernel
theorem dX6_init_14 : decode cX6_init 14 = .ok (.lload 5, 2) := by decide +kernel
theorem dX6_init_16 : decode cX6_init 16 = .ok (.putfield 15, 3) := by decide +kernel
theorem dX6_init_19 : decode cX6_init 19 = .ok (.aload_n 0, 1) := by decide +kernel
theorem dX6_init_20 : decode cX6_init 20 = .ok (.iload 7, 2) := by decide +kernel
theorem dX6_init_22 : decode cX6_init 22 = .ok (.putfield 18, 3) := by decide +kernel
theorem dX6_init_25 : decode cX6_init 25 = .ok (.return_, 1) := by decide +kernel
theorem dX6_placeOf_0 : decode cX6_placeOf 0 = .ok (.aload_n 0, 1) := by decide +kernel
theorem dX6_placeOf_1 : decode cX6_placeOf 1 = .ok (.getfield 18, 3) := by decide +kernel
theorem dX6_placeOf_4 : decode cX6_placeOf 4 = .ok (.ifCond .le 7, 3) := by decide +kernel
theorem dX6_placeOf_7 : decode cX6_placeOf 7 = .ok (.iconst 1, 1) := by decide +kernel
theorem dX6_placeOf_8 : decode cX6_placeOf 8 = .ok (.goto 4, 3) := by decide +kernel
theorem dX6_placeOf_11 : decode cX6_placeOf 11 = .ok (.iconst 0, 1) := by decide +kernel
theorem dX6_placeOf_12 : decode cX6_placeOf 12 = .ok (.istore_n 3, 1) := by decide +kernel
theorem dX6_placeOf_13 : decode cX6_placeOf 13 = .ok (.iload_n 3, 1) := by decide +kernel
theorem dX6_placeOf_14 : decode cX6_placeOf 14 = .ok (.ifCond .eq 29, 3) := by decide +kernel
theorem dX6_placeOf_17 : decode cX6_placeOf 17 = .ok (.lload_n 1, 1) := by decide +kernel
theorem dX6_placeOf_18 : decode cX6_placeOf 18 = .ok (.aload_n 0, 1) := by decide +kernel
theorem dX6_placeOf_19 : decode cX6_placeOf 19 = .ok (.getfield 9, 3) := by decide +kernel
theorem dX6_placeOf_22 : decode cX6_placeOf 22 = .ok (.lcmp, 1) := by decide +kernel
theorem dX6_placeOf_23 : decode cX6_placeOf 23 = .ok (.ifCond .lt 12, 3) := by decide +kernel
theorem dX6_placeOf_26 : decode cX6_placeOf 26 = .ok (.lload_n 1, 1) := by decide +kernel
theorem dX6_placeOf_27 : decode cX6_placeOf 27 = .ok (.aload_n 0, 1) := by decide +kernel
theorem dX6_placeOf_28 : decode cX6_placeOf 28 = .ok (.getfield 15, 3) := by decide +kernel
theorem dX6_placeOf_31 : decode cX6_placeOf 31 = .ok (.lcmp, 1) := by decide +kernel
theorem dX6_placeOf_32 : decode cX6_placeOf 32 = .ok (.ifCond .le 7, 3) := by decide +kernel
theorem dX6_placeOf_35 : decode cX6_placeOf 35 = .ok (.iconst 1, 1) := by decide +kernel
theorem dX6_placeOf_36 : decode cX6_placeOf 36 = .ok (.goto 30, 3) := by decide +kernel
theorem dX6_placeOf_39 : decode cX6_placeOf 39 = .ok (.iconst 0, 1) := by decide +kernel
theorem dX6_placeOf_40 : decode cX6_placeOf 40 = .ok (.goto 26, 3) := by decide +kernel
theorem dX6_placeOf_43 : decode cX6_placeOf 43 = .ok (.lload_n 1, 1) := by decide +kernel
theorem dX6_placeOf_44 : decode cX6_placeOf 44 = .ok (.aload_n 0, 1) := by decide +kernel
theorem dX6_placeOf_45 : decode cX6_placeOf 45 = .ok (.getfield 9, 3) := by decide +kernel
theorem dX6_placeOf_48 : decode cX6_placeOf 48 = .ok (.lcmp, 1) := by decide +kernel
theorem dX6_placeOf_49 : decode cX6_placeOf 49 = .ok (.ifCond .gt 12, 3) := by decide +kernel
theorem dX6_placeOf_52 : decode cX6_placeOf 52 = .ok (.lload_n 1, 1) := by decide +kernel
theorem dX6_placeOf_53 : decode cX6_placeOf 53 = .ok (.aload_n 0, 1) := by decide +kernel
theorem dX6_placeOf_54 : decode cX6_placeOf 54 = .ok (.getfield 15, 3) := by decide +kernel
theorem dX6_placeOf_57 : decode cX6_placeOf 57 = .ok (.lcmp, 1) := by decide +kernel
theorem dX6_placeOf_58 : decode cX6_placeOf 58 = .ok (.ifCond .ge 7, 3) := by decide +kernel
theorem dX6_placeOf_61 : decode cX6_placeOf 61 = .ok (.iconst 1, 1) := by decide +kernel
theorem dX6_placeOf_62 : decode cX6_placeOf 62 = .ok (.goto 4, 3) := by decide +kernel
theorem dX6_placeOf_65 : decode cX6_placeOf 65 = .ok (.iconst 0, 1) := by decide +kernel
theorem dX6_placeOf_66 : decode cX6_placeOf 66 = .ok (.istore 4, 2) := by decide +kernel
theorem dX6_placeOf_68 : decode cX6_placeOf 68 = .ok (.aload_n 0, 1) := by decide +kernel
theorem dX6_placeOf_69 : decode cX6_placeOf 69 = .ok (.getfield 22, 3) := by decide +kernel
theorem dX6_placeOf_72 : decode cX6_placeOf 72 = .ok (.lconst 0, 1) := by decide +kernel
theorem dX6_placeOf_73 : decode cX6_placeOf 73 = .ok (.lcmp, 1) := by decide +kernel
theorem dX6_placeOf_74 : decode cX6_placeOf 74 = .ok (.ifCond .eq 8, 3) := by decide +kernel
theorem dX6_placeOf_77 : decode cX6_placeOf 77 = .ok (.iload 4, 2) := by decide +kernel
theorem dX6_placeOf_79 : decode cX6_placeOf 79 = .ok (.ifCond .eq 7, 3) := by decide +kernel
theorem dX6_placeOf_82 : decode cX6_placeOf 82 = .ok (.ldc2_w 25, 3) := by decide +kernel
theorem dX6_placeOf_85 : decode cX6_placeOf 85 = .ok (.lreturn, 1) := by decide +kernel
theorem dX6_placeOf_86 : decode cX6_placeOf 86 = .ok (.iload_n 3, 1) := by decide +kernel
theorem dX6_placeOf_87 : decode cX6_placeOf 87 = .ok (.ifCond .eq 11, 3) := by decide +kernel
theorem dX6_placeOf_90 : decode cX6_placeOf 90 = .ok (.aload_n 0, 1) := by decide +kernel
theorem dX6_placeOf_91 : decode cX6_placeOf 91 = .ok (.getfield 18, 3) := by decide +kernel
theorem dX6_placeOf_94 : decode cX6_placeOf 94 = .ok (.i2l, 1) := by decide +kernel
theorem dX6_placeOf_95 : decode cX6_placeOf 95 = .ok (.goto 9, 3) := by decide +kernel
theorem dX6_placeOf_98 : decode cX6_placeOf 98 = .ok (.aload_n 0, 1) := by decide +kernel
theorem dX6_placeOf_99 : decode cX6_placeOf 99 = .ok (.getfield 18, 3) := by decide +kernel
theorem dX6_placeOf_102 : decode cX6_placeOf 102 = .ok (.ineg, 1) := by decide +kernel
theorem dX6_placeOf_103 : decode cX6_placeOf 103 = .ok (.i2l, 1) := by decide +kernel
theorem dX6_placeOf_104 : decode cX6_placeOf 104 = .ok (.lstore 5, 2) := by decide +kernel
theorem dX6_placeOf_106 : decode cX6_placeOf 106 = .ok (.iload_n 3, 1) := by decide +kernel
theorem dX6_placeOf_107 : decode cX6_placeOf 107 = .ok (.ifCond .eq 12, 3) := by decide +kernel
theorem dX6_placeOf_110 : decode cX6_placeOf 110 = .ok (.lload_n 1, 1) := by decide +kernel
theorem dX6_placeOf_111 : decode cX6_placeOf 111 = .ok (.aload_n 0, 1) := by decide +kernel
theorem dX6_placeOf_112 : decode cX6_placeOf 112 = .ok (.getfield 9, 3) := by decide +kernel
theorem dX6_placeOf_115 : decode cX6_placeOf 115 = .ok (.lsub, 1) := by decide +kernel
theorem dX6_placeOf_116 : decode cX6_placeOf 116 = .ok (.goto 9, 3) := by decide +kernel
theorem dX6_placeOf_119 : decode cX6_placeOf 119 = .ok (.aload_n 0, 1) := by decide +kernel
theorem dX6_placeOf_120 : decode cX6_placeOf 120 = .ok (.getfield 9, 3) := by decide +kernel
theorem dX6_placeOf_123 : decode cX6_placeOf 123 = .ok (.lload_n 1, 1) := by decide +kernel
theorem dX6_placeOf_124 : decode cX6_placeOf 124 = .ok (.lsub, 1) := by decide +kernel
theorem dX6_placeOf_125 : decode cX6_placeOf 125 = .ok (.lstore 7, 2) := by decide +kernel
theorem dX6_placeOf_127 : decode cX6_placeOf 127 = .ok (.lload 7, 2) := by decide +kernel
theorem dX6_placeOf_129 : decode cX6_placeOf 129 = .ok (.lload 5, 2) := by decide +kernel
theorem dX6_placeOf_131 : decode cX6_placeOf 131 = .ok (.invokestatic 27, 3) := by decide +kernel
theorem dX6_placeOf_134 : decode cX6_placeOf 134 = .ok (.lstore 9, 2) := by decide +kernel
theorem dX6_placeOf_136 : decode cX6_placeOf 136 = .ok (.lload 9, 2) := by decide +kernel
theorem dX6_placeOf_138 : decode cX6_placeOf 138 = .ok (.lload 5, 2) := by decide +kernel
theorem dX6_placeOf_140 : decode cX6_placeOf 140 = .ok (.lmul, 1) := by decide +kernel
theorem dX6_placeOf_141 : decode cX6_placeOf 141 = .ok (.lload 7, 2) := by decide +kernel
theorem dX6_placeOf_143 : decode cX6_placeOf 143 = .ok (.lcmp, 1) := by decide +kernel
theorem dX6_placeOf_144 : decode cX6_placeOf 144 = .ok (.ifCond .eq 7, 3) := by decide +kernel
theorem dX6_placeOf_147 : decode cX6_placeOf 147 = .ok (.ldc2_w 25, 3) := by decide +kernel
theorem dX6_placeOf_150 : decode cX6_placeOf 150 = .ok (.lreturn, 1) := by decide +kernel
theorem dX6_placeOf_151 : decode cX6_placeOf 151 = .ok (.lload 9, 2) := by decide +kernel
theorem dX6_placeOf_153 : decode cX6_placeOf 153 = .ok (.lconst 0, 1) := by decide +kernel
theorem dX6_placeOf_154 : decode cX6_placeOf 154 = .ok (.lcmp, 1) := by decide +kernel
theorem dX6_placeOf_155 : decode cX6_placeOf 155 = .ok (.ifCond .ge 9, 3) := by decide +kernel
theorem dX6_placeOf_158 : decode cX6_placeOf 158 = .ok (.ldc2_w 31, 3) := by decide +kernel
theorem dX6_placeOf_161 : decode cX6_placeOf 161 = .ok (.goto 5, 3) := by decide +kernel
theorem dX6_placeOf_164 : decode cX6_placeOf 164 = .ok (.lload 9, 2) := by decide +kernel
theorem dX6_placeOf_166 : decode cX6_placeOf 166 = .ok (.lreturn, 1) := by decide +kernel
theorem dX6_valueAt_0 : decode cX6_valueAt 0 = .ok (.aload_n 0, 1) := by decide +kernel
theorem dX6_valueAt_1 : decode cX6_valueAt 1 = .ok (.getfield 9, 3) := by decide +kernel
theorem dX6_valueAt_4 : decode cX6_valueAt 4 = .ok (.lload_n 1, 1) := by decide +kernel
theorem dX6_valueAt_5 : decode cX6_valueAt 5 = .ok (.aload_n 0, 1) := by decide +kernel
theorem dX6_valueAt_6 : decode cX6_valueAt 6 = .ok (.getfield 18, 3) := by decide +kernel
theorem dX6_valueAt_9 : decode cX6_valueAt 9 = .ok (.i2l, 1) := by decide +kernel
theorem dX6_valueAt_10 : decode cX6_valueAt 10 = .ok (.lmul, 1) := by decide +kernel
theorem dX6_valueAt_11 : decode cX6_valueAt 11 = .ok (.ladd, 1) := by decide +kernel
theorem dX6_valueAt_12 : decode cX6_valueAt 12 = .ok (.lreturn, 1) := by decide +kernel
theorem dX6_liesIn_0 : decode cX6_liesIn 0 = .ok (.aload_n 1, 1) := by decide +kernel
theorem dX6_liesIn_1 : decode cX6_liesIn 1 = .ok (.instanceof 10, 3) := by decide +kernel
theorem dX6_liesIn_4 : decode cX6_liesIn 4 = .ok (.ifCond .eq 16, 3) := by decide +kernel
theorem dX6_liesIn_7 : decode cX6_liesIn 7 = .ok (.aload_n 1, 1) := by decide +kernel
theorem dX6_liesIn_8 : decode cX6_liesIn 8 = .ok (.checkcast 10, 3) := by decide +kernel
theorem dX6_liesIn_11 : decode cX6_liesIn 11 = .ok (.astore_n 2, 1) := by decide +kernel
theorem dX6_liesIn_12 : decode cX6_liesIn 12 = .ok (.aload_n 0, 1) := by decide +kernel
theorem dX6_liesIn_13 : decode cX6_liesIn 13 = .ok (.aload_n 2, 1) := by decide +kernel
theorem dX6_liesIn_14 : decode cX6_liesIn 14 = .ok (.invokevirtual 33, 3) := by decide +kernel
theorem dX6_liesIn_17 : decode cX6_liesIn 17 = .ok (.goto 8, 3) := by decide +kernel
theorem dX6_liesIn_20 : decode cX6_liesIn 20 = .ok (.aload_n 0, 1) := by decide +kernel
theorem dX6_liesIn_21 : decode cX6_liesIn 21 = .ok (.aload_n 1, 1) := by decide +kernel
theorem dX6_liesIn_22 : decode cX6_liesIn 22 = .ok (.invokevirtual 37, 3) := by decide +kernel
theorem dX6_liesIn_25 : decode cX6_liesIn 25 = .ok (.ireturn, 1) := by decide +kernel
theorem dX6_liesInRow_0 : decode cX6_liesInRow 0 = .ok (.aload_n 1, 1) := by decide +kernel
theorem dX6_liesInRow_1 : decode cX6_liesInRow 1 = .ok (.aload_n 0, 1) := by decide +kernel
theorem dX6_liesInRow_2 : decode cX6_liesInRow 2 = .ok (.getfield 9, 3) := by decide +kernel
theorem dX6_liesInRow_5 : decode cX6_liesInRow 5 = .ok (.invokevirtual 41, 3) := by decide +kernel
theorem dX6_liesInRow_8 : decode cX6_liesInRow 8 = .ok (.ldc2_w 25, 3) := by decide +kernel
theorem dX6_liesInRow_11 : decode cX6_liesInRow 11 = .ok (.lcmp, 1) := by decide +kernel
theorem dX6_liesInRow_12 : decode cX6_liesInRow 12 = .ok (.ifCond .eq 18, 3) := by decide +kernel
theorem dX6_liesInRow_15 : decode cX6_liesInRow 15 = .ok (.aload_n 1, 1) := by decide +kernel
theorem dX6_liesInRow_16 : decode cX6_liesInRow 16 = .ok (.aload_n 0, 1) := by decide +kernel
theorem dX6_liesInRow_17 : decode cX6_liesInRow 17 = .ok (.getfield 15, 3) := by decide +kernel
theorem dX6_liesInRow_20 : decode cX6_liesInRow 20 = .ok (.invokevirtual 41, 3) := by decide +kernel
theorem dX6_liesInRow_23 : decode cX6_liesInRow 23 = .ok (.ldc2_w 25, 3) := by decide +kernel
theorem dX6_liesInRow_26 : decode cX6_liesInRow 26 = .ok (.lcmp, 1) := by decide +kernel
theorem dX6_liesInRow_27 : decode cX6_liesInRow 27 = .ok (.ifCond .ne 5, 3) := by decide +kernel
theorem dX6_liesInRow_30 : decode cX6_liesInRow 30 = .ok (.iconst 0, 1) := by decide +kernel
theorem dX6_liesInRow_31 : decode cX6_liesInRow 31 = .ok (.ireturn, 1) := by decide +kernel
theorem dX6_liesInRow_32 : decode cX6_liesInRow 32 = .ok (.aload_n 0, 1) := by decide +kernel
theorem dX6_liesInRow_33 : decode cX6_liesInRow 33 = .ok (.getfield 22, 3) := by decide +kernel
theorem dX6_liesInRow_36 : decode cX6_liesInRow 36 = .ok (.lconst 1, 1) := by decide +kernel
theorem dX6_liesInRow_37 : decode cX6_liesInRow 37 = .ok (.lcmp, 1) := by decide +kernel
theorem dX6_liesInRow_38 : decode cX6_liesInRow 38 = .ok (.ifCond .eq 22, 3) := by decide +kernel
theorem dX6_liesInRow_41 : decode cX6_liesInRow 41 = .ok (.aload_n 1, 1) := by decide +kernel
theorem dX6_liesInRow_42 : decode cX6_liesInRow 42 = .ok (.getfield 18, 3) := by decide +kernel
theorem dX6_liesInRow_45 : decode cX6_liesInRow 45 = .ok (.ifCond .eq 19, 3) := by decide +kernel
theorem dX6_liesInRow_48 : decode cX6_liesInRow 48 = .ok (.aload_n 0, 1) := by decide +kernel
theorem dX6_liesInRow_49 : decode cX6_liesInRow 49 = .ok (.getfield 18, 3) := by decide +kernel
theorem dX6_liesInRow_52 : decode cX6_liesInRow 52 = .ok (.aload_n 1, 1) := by decide +kernel
theorem dX6_liesInRow_53 : decode cX6_liesInRow 53 = .ok (.getfield 18, 3) := by decide +kernel
theorem dX6_liesInRow_56 : decode cX6_liesInRow 56 = .ok (.irem, 1) := by decide +kernel
theorem dX6_liesInRow_57 : decode cX6_liesInRow 57 = .ok (.ifCond .ne 7, 3) := by decide +kernel
theorem dX6_liesInRow_60 : decode cX6_liesInRow 60 = .ok (.iconst 1, 1) := by decide +kernel
theorem dX6_liesInRow_61 : decode cX6_liesInRow 61 = .ok (.goto 4, 3) := by decide +kernel
theorem dX6_liesInRow_64 : decode cX6_liesInRow 64 = .ok (.iconst 0, 1) := by decide +kernel
theorem dX6_liesInRow_65 : decode cX6_liesInRow 65 = .ok (.ireturn, 1) := by decide +kernel
theorem dX7_init_0 : decode cX7_init 0 = .ok (.aload_n 0, 1) := by decide +kernel
theorem dX7_init_1 : decode cX7_init 1 = .ok (.iload_n 1, 1) := by decide +kernel
theorem dX7_init_2 : decode cX7_init 2 = .ok (.iload_n 2, 1) := by decide +kernel
theorem dX7_init_3 : decode cX7_init 3 = .ok (.iconst 1, 1) := by decide +kernel
theorem dX7_init_4 : decode cX7_init 4 = .ok (.lload_n 3, 1) := by decide +kernel
theorem dX7_init_5 : decode cX7_init 5 = .ok (.invokespecial 3, 3) := by decide +kernel
theorem dX7_init_8 : decode cX7_init 8 = .ok (.return_, 1) := by decide +kernel
theorem dX7_madeOf_0 : decode cX7_madeOf 0 = .ok (.iconst 0, 1) := by decide +kernel
theorem dX7_madeOf_1 : decode cX7_madeOf 1 = .ok (.ireturn, 1) := by decide +kernel
theorem dX7_place_0 : decode cX7_place 0 = .ok (.aload_n 0, 1) := by decide +kernel
theorem dX7_place_1 : decode cX7_place 1 = .ok (.aload_n 1, 1) := by decide +kernel
theorem dX7_place_2 : decode cX7_place 2 = .ok (.iload_n 2, 1) := by decide +kernel
theorem dX7_place_3 : decode cX7_place 3 = .ok (.invokevirtual 9, 3) := by decide +kernel
theorem dX7_place_6 : decode cX7_place 6 = .ok (.invokevirtual 15, 3) := by decide +kernel
theorem dX7_place_9 : decode cX7_place 9 = .ok (.lstore 5, 2) := by decide +kernel
theorem dX7_place_11 : decode cX7_place 11 = .ok (.lload 5, 2) := by decide +kernel
theorem dX7_place_13 : decode cX7_place 13 = .ok (.ldc2_w 21, 3) := by decide +kernel
theorem dX7_place_16 : decode cX7_place 16 = .ok (.lcmp, 1) := by decide +kernel
theorem dX7_place_17 : decode cX7_place 17 = .ok (.ifCond .ne 14, 3) := by decide +kernel
theorem dX7_place_20 : decode cX7_place 20 = .ok (.aload 4, 2) := by decide +kernel
theorem dX7_place_22 : decode cX7_place 22 = .ok (.aload_n 0, 1) := by decide +kernel
theorem dX7_place_23 : decode cX7_place 23 = .ok (.getfield 23, 3) := by decide +kernel
theorem dX7_place_26 : decode cX7_place 26 = .ok (.iload_n 2, 1) := by decide +kernel
theorem dX7_place_27 : decode cX7_place 27 = .ok (.iload_n 3, 1) := by decide +kernel
theorem dX7_place_28 : decode cX7_place 28 = .ok (.invokevirtual 27, 3) := by decide +kernel
theorem dX7_place_31 : decode cX7_place 31 = .ok (.lload 5, 2) := by decide +kernel
theorem dX7_place_33 : decode cX7_place 33 = .ok (.lreturn, 1) := by decide +kernel
theorem dX7_fill_0 : decode cX7_fill 0 = .ok (.aload_n 1, 1) := by decide +kernel
theorem dX7_fill_1 : decode cX7_fill 1 = .ok (.iload_n 2, 1) := by decide +kernel
theorem dX7_fill_2 : decode cX7_fill 2 = .ok (.aload_n 0, 1) := by decide +kernel
theorem dX7_fill_3 : decode cX7_fill 3 = .ok (.lload_n 3, 1) := by decide +kernel
theorem dX7_fill_4 : decode cX7_fill 4 = .ok (.invokevirtual 33, 3) := by decide +kernel
theorem dX7_fill_7 : decode cX7_fill 7 = .ok (.invokevirtual 36, 3) := by decide +kernel
theorem dX7_fill_10 : decode cX7_fill 10 = .ok (.return_, 1) := by decide +kernel
theorem dX7_singleAt_0 : decode cX7_singleAt 0 = .ok (.iload_n 1, 1) := by decide +kernel
theorem dX7_singleAt_1 : decode cX7_singleAt 1 = .ok (.ifCond .ne 7, 3) := by decide +kernel
theorem dX7_singleAt_4 : decode cX7_singleAt 4 = .ok (.aload_n 0, 1) := by decide +kernel
theorem dX7_singleAt_5 : decode cX7_singleAt 5 = .ok (.goto 4, 3) := by decide +kernel
theorem dX7_singleAt_8 : decode cX7_singleAt 8 = .ok (.aconst_null, 1) := by decide +kernel
theorem dX7_singleAt_9 : decode cX7_singleAt 9 = .ok (.areturn, 1) := by decide +kernel
theorem dX7_eachLiesIn_0 : decode cX7_eachLiesIn 0 = .ok (.aload_n 0, 1) := by decide +kernel
theorem dX7_eachLiesIn_1 : decode cX7_eachLiesIn 1 = .ok (.getfield 40, 3) := by decide +kernel
theorem dX7_eachLiesIn_4 : decode cX7_eachLiesIn 4 = .ok (.ldc2_w 44, 3) := by decide +kernel
theorem dX7_eachLiesIn_7 : decode cX7_eachLiesIn 7 = .ok (.lcmp, 1) := by decide +kernel
theorem dX7_eachLiesIn_8 : decode cX7_eachLiesIn 8 = .ok (.ifCond .eq 14, 3) := by decide +kernel
theorem dX7_eachLiesIn_11 : decode cX7_eachLiesIn 11 = .ok (.aload_n 0, 1) := by decide +kernel
theorem dX7_eachLiesIn_12 : decode cX7_eachLiesIn 12 = .ok (.getfield 40, 3) := by decide +kernel
theorem dX7_eachLiesIn_15 : decode cX7_eachLiesIn 15 = .ok (.ldc2_w 46, 3) := by decide +kernel
theorem dX7_eachLiesIn_18 : decode cX7_eachLiesIn 18 = .ok (.lcmp, 1) := by decide +kernel
theorem dX7_eachLiesIn_19 : decode cX7_eachLiesIn 19 = .ok (.ifCond .le 5, 3) := by decide +kernel
theorem dX7_eachLiesIn_22 : decode cX7_eachLiesIn 22 = .ok (.iconst 0, 1) := by decide +kernel
theorem dX7_eachLiesIn_23 : decode cX7_eachLiesIn 23 = .ok (.ireturn, 1) := by decide +kernel
theorem dX7_eachLiesIn_24 : decode cX7_eachLiesIn 24 = .ok (.iconst 0, 1) := by decide +kernel
theorem dX7_eachLiesIn_25 : decode cX7_eachLiesIn 25 = .ok (.istore_n 2, 1) := by decide +kernel
theorem dX7_eachLiesIn_26 : decode cX7_eachLiesIn 26 = .ok (.iload_n 2, 1) := by decide +kernel
theorem dX7_eachLiesIn_27 : decode cX7_eachLiesIn 27 = .ok (.i2l, 1) := by decide +kernel
theorem dX7_eachLiesIn_28 : decode cX7_eachLiesIn 28 = .ok (.aload_n 0, 1) := by decide +kernel
theorem dX7_eachLiesIn_29 : decode cX7_eachLiesIn 29 = .ok (.getfield 40, 3) := by decide +kernel
theorem dX7_eachLiesIn_32 : decode cX7_eachLiesIn 32 = .ok (.lcmp, 1) := by decide +kernel
theorem dX7_eachLiesIn_33 : decode cX7_eachLiesIn 33 = .ok (.ifCond .ge 28, 3) := by decide +kernel
theorem dX7_eachLiesIn_36 : decode cX7_eachLiesIn 36 = .ok (.aload_n 1, 1) := by decide +kernel
theorem dX7_eachLiesIn_37 : decode cX7_eachLiesIn 37 = .ok (.aload_n 0, 1) := by decide +kernel
theorem dX7_eachLiesIn_38 : decode cX7_eachLiesIn 38 = .ok (.iload_n 2, 1) := by decide +kernel
theorem dX7_eachLiesIn_39 : decode cX7_eachLiesIn 39 = .ok (.i2l, 1) := by decide +kernel
theorem dX7_eachLiesIn_40 : decode cX7_eachLiesIn 40 = .ok (.invokevirtual 33, 3) := by decide +kernel
theorem dX7_eachLiesIn_43 : decode cX7_eachLiesIn 43 = .ok (.invokevirtual 15, 3) := by decide +kernel
theorem dX7_eachLiesIn_46 : decode cX7_eachLiesIn 46 = .ok (.ldc2_w 21, 3) := by decide +kernel
theorem dX7_eachLiesIn_49 : decode cX7_eachLiesIn 49 = .ok (.lcmp, 1) := by decide +kernel
theorem dX7_eachLiesIn_50 : decode cX7_eachLiesIn 50 = .ok (.ifCond .ne 5, 3) := by decide +kernel
theorem dX7_eachLiesIn_53 : decode cX7_eachLiesIn 53 = .ok (.iconst 0, 1) := by decide +kernel
theorem dX7_eachLiesIn_54 : decode cX7_eachLiesIn 54 = .ok (.ireturn, 1) := by decide +kernel
theorem dX7_eachLiesIn_55 : decode cX7_eachLiesIn 55 = .ok (.iinc 2 1, 3) := by decide +kernel
theorem dX7_eachLiesIn_58 : decode cX7_eachLiesIn 58 = .ok (.goto (-32), 3) := by decide +kernel
theorem dX7_eachLiesIn_61 : decode cX7_eachLiesIn 61 = .ok (.iconst 1, 1) := by decide +kernel
theorem dX7_eachLiesIn_62 : decode cX7_eachLiesIn 62 = .ok (.ireturn, 1) := by decide +kernel
theorem dX8_init_0 : decode cX8_init 0 = .ok (.aload_n 0, 1) := by decide +kernel
theorem dX8_init_1 : decode cX8_init 1 = .ok (.invokespecial 1, 3) := by decide +kernel
theorem dX8_init_4 : decode cX8_init 4 = .ok (.aload_n 0, 1) := by decide +kernel
theorem dX8_init_5 : decode cX8_init 5 = .ok (.new 7, 3) := by decide +kernel
theorem dX8_init_8 : decode cX8_init 8 = .ok (.dup, 1) := by decide +kernel
theorem dX8_init_9 : decode cX8_init 9 = .ok (.invokespecial 9, 3) := by decide +kernel
theorem dX8_init_12 : decode cX8_init 12 = .ok (.putfield 10, 3) := by decide +kernel
theorem dX8_init_15 : decode cX8_init 15 = .ok (.aload_n 0, 1) := by decide +kernel
theorem dX8_init_16 : decode cX8_init 16 = .ok (.new 7, 3) := by decide +kernel
theorem dX8_init_19 : decode cX8_init 19 = .ok (.dup, 1) := by decide +kernel
theorem dX8_init_20 : decode cX8_init 20 = .ok (.invokespecial 9, 3) := by decide +kernel
theorem dX8_init_23 : decode cX8_init 23 = .ok (.putfield 16, 3) := by decide +kernel
theorem dX8_init_26 : decode cX8_init 26 = .ok (.aload_n 0, 1) := by decide +kernel
theorem dX8_init_27 : decode cX8_init 27 = .ok (.new 19, 3) := by decide +kernel
theorem dX8_init_30 : decode cX8_init 30 = .ok (.dup, 1) := by decide +kernel
theorem dX8_init_31 : decode cX8_init 31 = .ok (.invokespecial 21, 3) := by decide +kernel
theorem dX8_init_34 : decode cX8_init 34 = .ok (.putfield 22, 3) := by decide +kernel
theorem dX8_init_37 : decode cX8_init 37 = .ok (.aload_n 0, 1) := by decide +kernel
theorem dX8_init_38 : decode cX8_init 38 = .ok (.bipush 40, 2) := by decide +kernel
theorem dX8_init_40 : decode cX8_init 40 = .ok (.anewarray 26, 3) := by decide +kernel
theorem dX8_init_43 : decode cX8_init 43 = .ok (.putfield 28, 3) := by decide +kernel
theorem dX8_init_46 : decode cX8_init 46 = .ok (.aload_n 0, 1) := by decide +kernel
theorem dX8_init_47 : decode cX8_init 47 = .ok (.bipush 6, 2) := by decide +kernel
theorem dX8_init_49 : decode cX8_init 49 = .ok (.anewarray 26, 3) := by decide +kernel
theorem dX8_init_52 : decode cX8_init 52 = .ok (.putfield 32, 3) := by decide +kernel
theorem dX8_init_55 : decode cX8_init 55 = .ok (.aload_n 0, 1) := by decide +kernel
theorem dX8_init_56 : decode cX8_init 56 = .ok (.bipush 6, 2) := by decide +kernel
theorem dX8_init_58 : decode cX8_init 58 = .ok (.sipush 400, 3) := by decide +kernel
theorem dX8_init_61 : decode cX8_init 61 = .ok (.multianewarray 35 2, 4) := by decide +kernel
theorem dX8_init_65 : decode cX8_init 65 = .ok (.putfield 37, 3) := by decide +kernel
theorem dX8_init_68 : decode cX8_init 68 = .ok (.aload_n 0, 1) := by decide +kernel
theorem dX8_init_69 : decode cX8_init 69 = .ok (.iconst 0, 1) := by decide +kernel
theorem dX8_init_70 : decode cX8_init 70 = .ok (.putfield 40, 3) := by decide +kernel
theorem dX8_init_73 : decode cX8_init 73 = .ok (.aload_n 0, 1) := by decide +kernel
theorem dX8_init_74 : decode cX8_init 74 = .ok (.iconst 0, 1) := by decide +kernel
theorem dX8_init_75 : decode cX8_init 75 = .ok (.putfield 44, 3) := by decide +kernel
theorem dX8_init_78 : decode cX8_init 78 = .ok (.return_, 1) := by decide +kernel
theorem dX8_wholes_0 : decode cX8_wholes 0 = .ok (.aload_n 0, 1) := by decide +kernel
theorem dX8_wholes_1 : decode cX8_wholes 1 = .ok (.iconst 0, 1) := by decide +kernel
theorem dX8_wholes_2 : decode cX8_wholes 2 = .ok (.lload_n 1, 1) := by decide +kernel
theorem dX8_wholes_3 : decode cX8_wholes 3 = .ok (.lload_n 3, 1) := by decide +kernel
theorem dX8_wholes_4 : decode cX8_wholes 4 = .ok (.iconst 1, 1) := by decide +kernel
theorem dX8_wholes_5 : decode cX8_wholes 5 = .ok (.invokevirtual 47, 3) := by decide +kernel
theorem dX8_wholes_8 : decode cX8_wholes 8 = .ok (.ireturn, 1) := by decide +kernel
theorem dX8_signs_0 : decode cX8_signs 0 = .ok (.iload_n 1, 1) := by decide +kernel
theorem dX8_signs_1 : decode cX8_signs 1 = .ok (.ldc 51, 2) := by decide +kernel
theorem dX8_signs_3 : decode cX8_signs 3 = .ok (.invokestatic 52, 3) := by decide +kernel
theorem dX8_signs_6 : decode cX8_signs 6 = .ok (.ifCond .eq 12, 3) := by decide +kernel
theorem dX8_signs_9 : decode cX8_signs 9 = .ok (.iload_n 2, 1) := by decide +kernel
theorem dX8_signs_10 : decode cX8_signs 10 = .ok (.ldc 51, 2) := by decide +kernel
theorem dX8_signs_12 : decode cX8_signs 12 = .ok (.invokestatic 52, 3) := by decide +kernel
theorem dX8_signs_15 : decode cX8_signs 15 = .ok (.ifCond .ne 6, 3) := by decide +kernel
theorem dX8_signs_18 : decode cX8_signs 18 = .ok (.bipush (-102), 2) := by decide +kernel
theorem dX8_signs_20 : decode cX8_signs 20 = .ok (.ireturn, 1) := by decide +kernel
theorem dX8_signs_21 : decode cX8_signs 21 = .ok (.aload_n 0, 1) := by decide +kernel
theorem dX8_signs_22 : decode cX8_signs 22 = .ok (.iconst 1, 1) := by decide +kernel
theorem dX8_signs_23 : decode cX8_signs 23 = .ok (.iload_n 1, 1) := by decide +kernel
theorem dX8_signs_24 : decode cX8_signs 24 = .ok (.i2l, 1) := by decide +kernel
theorem dX8_signs_25 : decode cX8_signs 25 = .ok (.iload_n 2, 1) := by decide +kernel
theorem dX8_signs_26 : decode cX8_signs 26 = .ok (.i2l, 1) := by decide +kernel
theorem dX8_signs_27 : decode cX8_signs 27 = .ok (.iconst 1, 1) := by decide +kernel
theorem dX8_signs_28 : decode cX8_signs 28 = .ok (.invokevirtual 47, 3) := by decide +kernel
theorem dX8_signs_31 : decode cX8_signs 31 = .ok (.ireturn, 1) := by decide +kernel
theorem dX8_names_0 : decode cX8_names 0 = .ok (.iload_n 1, 1) := by decide +kernel
theorem dX8_names_1 : decode cX8_names 1 = .ok (.iconst 1, 1) := by decide +kernel
theorem dX8_names_2 : decode cX8_names 2 = .ok (.if_icmp .lt 29, 3) := by decide +kernel
theorem dX8_names_5 : decode cX8_names 5 = .ok (.iload_n 1, 1) := by decide +kernel
theorem dX8_names_6 : decode cX8_names 6 = .ok (.bipush 20, 2) := by decide +kernel
theorem dX8_names_8 : decode cX8_names 8 = .ok (.if_icmp .gt 23, 3) := by decide +kernel
theorem dX8_names_11 : decode cX8_names 11 = .ok (.iload_n 2, 1) := by decide +kernel
theorem dX8_names_12 : decode cX8_names 12 = .ok (.iload_n 1, 1) := by decide +kernel
theorem dX8_names_13 : decode cX8_names 13 = .ok (.iconst 1, 1) := by decide +kernel
theorem dX8_names_14 : decode cX8_names 14 = .ok (.isub, 1) := by decide +kernel
theorem dX8_names_15 : decode cX8_names 15 = .ok (.invokestatic 52, 3) := by decide +kernel
theorem dX8_names_18 : decode cX8_names 18 = .ok (.ifCond .eq 13, 3) := by decide +kernel
theorem dX8_names_21 : decode cX8_names 21 = .ok (.iload_n 3, 1) := by decide +kernel
theorem dX8_names_22 : decode cX8_names 22 = .ok (.iload_n 1, 1) := by decide +kernel
theorem dX8_names_23 : decode cX8_names 23 = .ok (.iconst 1, 1) := by decide +kernel
theorem dX8_names_24 : decode cX8_names 24 = .ok (.isub, 1) := by decide +kernel
theorem dX8_names_25 : decode cX8_names 25 = .ok (.invokestatic 52, 3) := by decide +kernel
theorem dX8_names_28 : decode cX8_names 28 = .ok (.ifCond .ne 6, 3) := by decide +kernel
theorem dX8_names_31 : decode cX8_names 31 = .ok (.bipush (-102), 2) := by decide +kernel
theorem dX8_names_33 : decode cX8_names 33 = .ok (.ireturn, 1) := by decide +kernel
theorem dX8_names_34 : decode cX8_names 34 = .ok (.aload_n 0, 1) := by decide +kernel
theorem dX8_names_35 : decode cX8_names 35 = .ok (.invokevirtual 56, 3) := by decide +kernel
theorem dX8_names_38 : decode cX8_names 38 = .ok (.ifCond .eq 6, 3) := by decide +kernel
theorem dX8_names_41 : decode cX8_names 41 = .ok (.bipush (-104), 2) := by decide +kernel
theorem dX8_names_43 : decode cX8_names 43 = .ok (.ireturn, 1) := by decide +kernel
theorem dX8_names_44 : decode cX8_names 44 = .ok (.iload_n 3, 1) := by decide +kernel
theorem dX8_names_45 : decode cX8_names 45 = .ok (.iload_n 2, 1) := by decide +kernel
theorem dX8_names_46 : decode cX8_names 46 = .ok (.if_icmp .lt 9, 3) := by decide +kernel
theorem dX8_names_49 : decode cX8_names 49 = .ok (.iload_n 3, 1) := by decide +kernel
theorem dX8_names_50 : decode cX8_names 50 = .ok (.iload_n 2, 1) := by decide +kernel
theorem dX8_names_51 : decode cX8_names 51 = .ok (.isub, 1) := by decide +kernel
theorem dX8_names_52 : decode cX8_names 52 = .ok (.goto 8, 3) := by decide +kernel
theorem dX8_names_55 : decode cX8_names 55 = .ok (.iload_n 3, 1) := by decide +kernel
theorem dX8_names_56 : decode cX8_names 56 = .ok (.iload_n 2, 1) := by decide +kernel
theorem dX8_names_57 : decode cX8_names 57 = .ok (.isub, 1) := by decide +kernel
theorem dX8_names_58 : decode cX8_names 58 = .ok (.iload_n 1, 1) := by decide +kernel
theorem dX8_names_59 : decode cX8_names 59 = .ok (.iadd, 1) := by decide +kernel
theorem dX8_names_60 : decode cX8_names 60 = .ok (.istore 4, 2) := by decide +kernel
theorem dX8_names_62 : decode cX8_names 62 = .ok (.aload_n 0, 1) := by decide +kernel
theorem dX8_names_63 : decode cX8_names 63 = .ok (.new 60, 3) := by decide +kernel
theorem dX8_names_66 : decode cX8_names 66 = .ok (.dup, 1) := by decide +kernel
theorem dX8_names_67 : decode cX8_names 67 = .ok (.aload_n 0, 1) := by decide +kernel
theorem dX8_names_68 : decode cX8_names 68 = .ok (.getfield 40, 3) := by decide +kernel
theorem dX8_names_71 : decode cX8_names 71 = .ok (.iload_n 1, 1) := by decide +kernel
theorem dX8_names_72 : decode cX8_names 72 = .ok (.iload_n 2, 1) := by decide +kernel
theorem dX8_names_73 : decode cX8_names 73 = .ok (.iload 4, 2) := by decide +kernel
theorem dX8_names_75 : decode cX8_names 75 = .ok (.iconst 1, 1) := by decide +kernel
theorem dX8_names_76 : decode cX8_names 76 = .ok (.iadd, 1) := by decide +kernel
theorem dX8_names_77 : decode cX8_names 77 = .ok (.invokespecial 62, 3) := by decide +kernel
theorem dX8_names_80 : decode cX8_names 80 = .ok (.invokevirtual 65, 3) := by decide +kernel
theorem dX8_names_83 : decode cX8_names 83 = .ok (.ireturn, 1) := by decide +kernel
theorem dX8_steps_0 : decode cX8_steps 0 = .ok (.iload 5, 2) := by decide +kernel
theorem dX8_steps_2 : decode cX8_steps 2 = .ok (.ifCond .eq 17, 3) := by decide +kernel
theorem dX8_steps_5 : decode cX8_steps 5 = .ok (.iload 5, 2) := by decide +kernel
theorem dX8_steps_7 : decode cX8_steps 7 = .ok (.ldc 69, 2) := by decide +kernel
theorem dX8_steps_9 : decode cX8_steps 9 = .ok (.if_icmp .lt 10, 3) := by decide +kernel
theorem dX8_steps_12 : decode cX8_steps 12 = .ok (.iload 5, 2) := by decide +kernel
theorem dX8_steps_14 : decode cX8_steps 14 = .ok (.ldc 70, 2) := by decide +kernel
theorem dX8_steps_16 : decode cX8_steps 16 = .ok (.if_icmp .le 6, 3) := by decide +kernel
theorem dX8_steps_19 : decode cX8_steps 19 = .ok (.bipush (-102), 2) := by decide +kernel
theorem dX8_steps_21 : decode cX8_steps 21 = .ok (.ireturn, 1) := by decide +kernel
theorem dX8_steps_22 : decode cX8_steps 22 = .ok (.aload_n 0, 1) := by decide +kernel
theorem dX8_steps_23 : decode cX8_steps 23 = .ok (.iconst 3, 1) := by decide +kernel
theorem dX8_steps_24 : decode cX8_steps 24 = .ok (.lload_n 1, 1) := by decide +kernel
theorem dX8_steps_25 : decode cX8_steps 25 = .ok (.lload_n 3, 1) := by decide +kernel
theorem dX8_steps_26 : decode cX8_steps 26 = .ok (.iload 5, 2) := by decide +kernel
theorem dX8_steps_28 : decode cX8_steps 28 = .ok (.invokevirtual 47, 3) := by decide +kernel
theorem dX8_steps_31 : decode cX8_steps 31 = .ok (.ireturn, 1) := by decide +kernel
theorem dX8_back_0 : decode cX8_back 0 = .ok (.aload_n 0, 1) := by decide +kernel
theorem dX8_back_1 : decode cX8_back 1 = .ok (.iload_n 1, 1) := by decide +kernel
theorem dX8_back_2 : decode cX8_back 2 = .ok (.invokevirtual 71, 3) := by decide +kernel
theorem dX8_back_5 : decode cX8_back 5 = .ok (.astore_n 2, 1) := by decide +kernel
theorem dX8_back_6 : decode cX8_back 6 = .ok (.aload_n 2, 1) := by decide +kernel
theorem dX8_back_7 : decode cX8_back 7 = .ok (.ifnonnull 6, 3) := by decide +kernel
theorem dX8_back_10 : decode cX8_back 10 = .ok (.bipush (-101), 2) := by decide +kernel
theorem dX8_back_12 : decode cX8_back 12 = .ok (.ireturn, 1) := by decide +kernel
theorem dX8_back_13 : decode cX8_back 13 = .ok (.aload_n 2, 1) := by decide +kernel
theorem dX8_back_14 : decode cX8_back 14 = .ok (.getfield 75, 3) := by decide +kernel
theorem dX8_back_17 : decode cX8_back 17 = .ok (.ldc2_w 79, 3) := by decide +kernel
theorem dX8_back_20 : decode cX8_back 20 = .ok (.lcmp, 1) := by decide +kernel
theorem dX8_back_21 : decode cX8_back 21 = .ok (.ifCond .ne 6, 3) := by decide +kernel
theorem dX8_back_24 : decode cX8_back 24 = .ok (.bipush (-103), 2) := by decide +kernel
theorem dX8_back_26 : decode cX8_back 26 = .ok (.ireturn, 1) := by decide +kernel
theorem dX8_back_27 : decode cX8_back 27 = .ok (.aload_n 0, 1) := by decide +kernel
theorem dX8_back_28 : decode cX8_back 28 = .ok (.invokevirtual 56, 3) := by decide +kernel
theorem dX8_back_31 : decode cX8_back 31 = .ok (.ifCond .eq 6, 3) := by decide +kernel
theorem dX8_back_34 : decode cX8_back 34 = .ok (.bipush (-104), 2) := by decide +kernel
theorem dX8_back_36 : decode cX8_back 36 = .ok (.ireturn, 1) := by decide +kernel
theorem dX8_back_37 : decode cX8_back 37 = .ok (.aload_n 0, 1) := by decide +kernel
theorem dX8_back_38 : decode cX8_back 38 = .ok (.new 81, 3) := by decide +kernel
theorem dX8_back_41 : decode cX8_back 41 = .ok (.dup, 1) := by decide +kernel
theorem dX8_back_42 : decode cX8_back 42 = .ok (.aload_n 0, 1) := by decide +kernel
theorem dX8_back_43 : decode cX8_back 43 = .ok (.getfield 40, 3) := by decide +kernel
theorem dX8_back_46 : decode cX8_back 46 = .ok (.aload_n 2, 1) := by decide +kernel
theorem dX8_back_47 : decode cX8_back 47 = .ok (.invokespecial 83, 3) := by decide +kernel
theorem dX8_back_50 : decode cX8_back 50 = .ok (.invokevirtual 65, 3) := by decide +kernel
theorem dX8_back_53 : decode cX8_back 53 = .ok (.ireturn, 1) := by decide +kernel
theorem dX8_pair_0 : decode cX8_pair 0 = .ok (.aload_n 0, 1) := by decide +kernel
theorem dX8_pair_1 : decode cX8_pair 1 = .ok (.iload_n 1, 1) := by decide +kernel
theorem dX8_pair_2 : decode cX8_pair 2 = .ok (.invokevirtual 71, 3) := by decide +kernel
theorem dX8_pair_5 : decode cX8_pair 5 = .ok (.astore_n 3, 1) := by decide +kernel
theorem dX8_pair_6 : decode cX8_pair 6 = .ok (.aload_n 0, 1) := by decide +kernel
theorem dX8_pair_7 : decode cX8_pair 7 = .ok (.iload_n 2, 1) := by decide +kernel
theorem dX8_pair_8 : decode cX8_pair 8 = .ok (.invokevirtual 71, 3) := by decide +kernel
theorem dX8_pair_11 : decode cX8_pair 11 = .ok (.astore 4, 2) := by decide +kernel
theorem dX8_pair_13 : decode cX8_pair 13 = .ok (.aload_n 3, 1) := by decide +kernel
theorem dX8_pair_14 : decode cX8_pair 14 = .ok (.ifnull 8, 3) := by decide +kernel
theorem dX8_pair_17 : decode cX8_pair 17 = .ok (.aload 4, 2) := by decide +kernel
theorem dX8_pair_19 : decode cX8_pair 19 = .ok (.ifnonnull 6, 3) := by decide +kernel
theorem dX8_pair_22 : decode cX8_pair 22 = .ok (.bipush (-101), 2) := by decide +kernel
theorem dX8_pair_24 : decode cX8_pair 24 = .ok (.ireturn, 1) := by decide +kernel
theorem dX8_pair_25 : decode cX8_pair 25 = .ok (.aload_n 0, 1) := by decide +kernel
theorem dX8_pair_26 : decode cX8_pair 26 = .ok (.iconst 5, 1) := by decide +kernel
theorem dX8_pair_27 : decode cX8_pair 27 = .ok (.iconst 2, 1) := by decide +kernel
theorem dX8_pair_28 : decode cX8_pair 28 = .ok (.anewarray 26, 3) := by decide +kernel
theorem dX8_pair_31 : decode cX8_pair 31 = .ok (.dup, 1) := by decide +kernel
theorem dX8_pair_32 : decode cX8_pair 32 = .ok (.iconst 0, 1) := by decide +kernel
theorem dX8_pair_33 : decode cX8_pair 33 = .ok (.aload_n 3, 1) := by decide +kernel
theorem dX8_pair_34 : decode cX8_pair 34 = .ok (.aastore, 1) := by decide +kernel
theorem dX8_pair_35 : decode cX8_pair 35 = .ok (.dup, 1) := by decide +kernel
theorem dX8_pair_36 : decode cX8_pair 36 = .ok (.iconst 1, 1) := by decide +kernel
theorem dX8_pair_37 : decode cX8_pair 37 = .ok (.aload 4, 2) := by decide +kernel
theorem dX8_pair_39 : decode cX8_pair 39 = .ok (.aastore, 1) := by decide +kernel
theorem dX8_pair_40 : decode cX8_pair 40 = .ok (.invokevirtual 86, 3) := by decide +kernel
theorem dX8_pair_43 : decode cX8_pair 43 = .ok (.ireturn, 1) := by decide +kernel
theorem dX8_triple_0 : decode cX8_triple 0 = .ok (.aload_n 0, 1) := by decide +kernel
theorem dX8_triple_1 : decode cX8_triple 1 = .ok (.iload_n 1, 1) := by decide +kernel
theorem dX8_triple_2 : decode cX8_triple 2 = .ok (.invokevirtual 71, 3) := by decide +kernel
theorem dX8_triple_5 : decode cX8_triple 5 = .ok (.astore 4, 2) := by decide +kernel
theorem dX8_triple_7 : decode cX8_triple 7 = .ok (.aload_n 0, 1) := by decide +kernel
theorem dX8_triple_8 : decode cX8_triple 8 = .ok (.iload_n 2, 1) := by decide +kernel
theorem dX8_triple_9 : decode cX8_triple 9 = .ok (.invokevirtual 71, 3) := by decide +kernel
theorem dX8_triple_12 : decode cX8_triple 12 = .ok (.astore 5, 2) := by decide +kernel
theorem dX8_triple_14 : decode cX8_triple 14 = .ok (.aload_n 0, 1) := by decide +kernel
theorem dX8_triple_15 : decode cX8_triple 15 = .ok (.iload_n 3, 1) := by decide +kernel
theorem dX8_triple_16 : decode cX8_triple 16 = .ok (.invokevirtual 71, 3) := by decide +kernel
theorem dX8_triple_19 : decode cX8_triple 19 = .ok (.astore 6, 2) := by decide +kernel
theorem dX8_triple_21 : decode cX8_triple 21 = .ok (.aload 4, 2) := by decide +kernel
theorem dX8_triple_23 : decode cX8_triple 23 = .ok (.ifnull 13, 3) := by decide +kernel
theorem dX8_triple_26 : decode cX8_triple 26 = .ok (.aload 5, 2) := by decide +kernel
theorem dX8_triple_28 : decode cX8_triple 28 = .ok (.ifnull 8, 3) := by decide +kernel
theorem dX8_triple_31 : decode cX8_triple 31 = .ok (.aload 6, 2) := by decide +kernel
theorem dX8_triple_33 : decode cX8_triple 33 = .ok (.ifnonnull 6, 3) := by decide +kernel
theorem dX8_triple_36 : decode cX8_triple 36 = .ok (.bipush (-101), 2) := by decide +kernel
theorem dX8_triple_38 : decode cX8_triple 38 = .ok (.ireturn, 1) := by decide +kernel
theorem dX8_triple_39 : decode cX8_triple 39 = .ok (.aload_n 0, 1) := by decide +kernel
theorem dX8_triple_40 : decode cX8_triple 40 = .ok (.bipush 6, 2) := by decide +kernel
theorem dX8_triple_42 : decode cX8_triple 42 = .ok (.iconst 3, 1) := by decide +kernel
theorem dX8_triple_43 : decode cX8_triple 43 = .ok (.anewarray 26, 3) := by decide +kernel
theorem dX8_triple_46 : decode cX8_triple 46 = .ok (.dup, 1) := by decide +kernel
theorem dX8_triple_47 : decode cX8_triple 47 = .ok (.iconst 0, 1) := by decide +kernel
theorem dX8_triple_48 : decode cX8_triple 48 = .ok (.aload 4, 2) := by decide +kernel
theorem dX8_triple_50 : decode cX8_triple 50 = .ok (.aastore, 1) := by decide +kernel
theorem dX8_triple_51 : decode cX8_triple 51 = .ok (.dup, 1) := by decide +kernel
theorem dX8_triple_52 : decode cX8_triple 52 = .ok (.iconst 1, 1) := by decide +kernel
theorem dX8_triple_53 : decode cX8_triple 53 = .ok (.aload 5, 2) := by decide +kernel
theorem dX8_triple_55 : decode cX8_triple 55 = .ok (.aastore, 1) := by decide +kernel
theorem dX8_triple_56 : decode cX8_triple 56 = .ok (.dup, 1) := by decide +kernel
theorem dX8_triple_57 : decode cX8_triple 57 = .ok (.iconst 2, 1) := by decide +kernel
theorem dX8_triple_58 : decode cX8_triple 58 = .ok (.aload 6, 2) := by decide +kernel
theorem dX8_triple_60 : decode cX8_triple 60 = .ok (.aastore, 1) := by decide +kernel
theorem dX8_triple_61 : decode cX8_triple 61 = .ok (.invokevirtual 86, 3) := by decide +kernel
theorem dX8_triple_64 : decode cX8_triple 64 = .ok (.ireturn, 1) := by decide +kernel
theorem dX8_told_0 : decode cX8_told 0 = .ok (.aload_n 0, 1) := by decide +kernel
theorem dX8_told_1 : decode cX8_told 1 = .ok (.iload_n 1, 1) := by decide +kernel
theorem dX8_told_2 : decode cX8_told 2 = .ok (.invokevirtual 71, 3) := by decide +kernel
theorem dX8_told_5 : decode cX8_told 5 = .ok (.astore_n 3, 1) := by decide +kernel
theorem dX8_told_6 : decode cX8_told 6 = .ok (.aload_n 3, 1) := by decide +kernel
theorem dX8_told_7 : decode cX8_told 7 = .ok (.ifnonnull 6, 3) := by decide +kernel
theorem dX8_told_10 : decode cX8_told 10 = .ok (.bipush (-101), 2) := by decide +kernel
theorem dX8_told_12 : decode cX8_told 12 = .ok (.ireturn, 1) := by decide +kernel
theorem dX8_told_13 : decode cX8_told 13 = .ok (.iload_n 2, 1) := by decide +kernel
theorem dX8_told_14 : decode cX8_told 14 = .ok (.tableswitch 50 0 3 #[30, 35, 40, 45], 30) := by decide +kernel
theorem dX8_told_44 : decode cX8_told 44 = .ok (.aload_n 3, 1) := by decide +kernel
theorem dX8_told_45 : decode cX8_told 45 = .ok (.getfield 90, 3) := by decide +kernel
theorem dX8_told_48 : decode cX8_told 48 = .ok (.ireturn, 1) := by decide +kernel
theorem dX8_told_49 : decode cX8_told 49 = .ok (.aload_n 3, 1) := by decide +kernel
theorem dX8_told_50 : decode cX8_told 50 = .ok (.getfield 93, 3) := by decide +kernel
theorem dX8_told_53 : decode cX8_told 53 = .ok (.ireturn, 1) := by decide +kernel
theorem dX8_told_54 : decode cX8_told 54 = .ok (.aload_n 3, 1) := by decide +kernel
theorem dX8_told_55 : decode cX8_told 55 = .ok (.invokevirtual 96, 3) := by decide +kernel
theorem dX8_told_58 : decode cX8_told 58 = .ok (.ireturn, 1) := by decide +kernel
theorem dX8_told_59 : decode cX8_told 59 = .ok (.aload_n 3, 1) := by decide +kernel
theorem dX8_told_60 : decode cX8_told 60 = .ok (.getfield 93, 3) := by decide +kernel
theorem dX8_told_63 : decode cX8_told 63 = .ok (.ireturn, 1) := by decide +kernel
theorem dX8_told_64 : decode cX8_told 64 = .ok (.bipush (-102), 2) := by decide +kernel
theorem dX8_told_66 : decode cX8_told 66 = .ok (.ireturn, 1) := by decide +kernel
theorem dX8_size_0 : decode cX8_size 0 = .ok (.aload_n 0, 1) := by decide +kernel
theorem dX8_size_1 : decode cX8_size 1 = .ok (.iload_n 1, 1) := by decide +kernel
theorem dX8_size_2 : decode cX8_size 2 = .ok (.invokevirtual 71, 3) := by decide +kernel
theorem dX8_size_5 : decode cX8_size 5 = .ok (.astore_n 2, 1) := by decide +kernel
theorem dX8_size_6 : decode cX8_size 6 = .ok (.aload_n 2, 1) := by decide +kernel
theorem dX8_size_7 : decode cX8_size 7 = .ok (.ifnonnull 11, 3) := by decide +kernel
theorem dX8_size_10 : decode cX8_size 10 = .ok (.bipush (-101), 2) := by decide +kernel
theorem dX8_size_12 : decode cX8_size 12 = .ok (.invokestatic 100, 3) := by decide +kernel
theorem dX8_size_15 : decode cX8_size 15 = .ok (.goto 7, 3) := by decide +kernel
theorem dX8_size_18 : decode cX8_size 18 = .ok (.aload_n 2, 1) := by decide +kernel
theorem dX8_size_19 : decode cX8_size 19 = .ok (.getfield 75, 3) := by decide +kernel
theorem dX8_size_22 : decode cX8_size 22 = .ok (.lreturn, 1) := by decide +kernel
theorem dX8_hold_0 : decode cX8_hold 0 = .ok (.iload_n 1, 1) := by decide +kernel
theorem dX8_hold_1 : decode cX8_hold 1 = .ok (.bipush 7, 2) := by decide +kernel
theorem dX8_hold_3 : decode cX8_hold 3 = .ok (.invokestatic 52, 3) := by decide +kernel
theorem dX8_hold_6 : decode cX8_hold 6 = .ok (.ifCond .ne 13, 3) := by decide +kernel
theorem dX8_hold_9 : decode cX8_hold 9 = .ok (.new 104, 3) := by decide +kernel
theorem dX8_hold_12 : decode cX8_hold 12 = .ok (.dup, 1) := by decide +kernel
theorem dX8_hold_13 : decode cX8_hold 13 = .ok (.ldc 106, 2) := by decide +kernel
theorem dX8_hold_15 : decode cX8_hold 15 = .ok (.invokespecial 108, 3) := by decide +kernel
theorem dX8_hold_18 : decode cX8_hold 18 = .ok (.athrow, 1) := by decide +kernel
theorem dX8_hold_19 : decode cX8_hold 19 = .ok (.aload_n 0, 1) := by decide +kernel
theorem dX8_hold_20 : decode cX8_hold 20 = .ok (.getfield 10, 3) := by decide +kernel
theorem dX8_hold_23 : decode cX8_hold 23 = .ok (.iload_n 1, 1) := by decide +kernel
theorem dX8_hold_24 : decode cX8_hold 24 = .ok (.invokevirtual 111, 3) := by decide +kernel
theorem dX8_hold_27 : decode cX8_hold 27 = .ok (.lstore 4, 2) := by decide +kernel
theorem dX8_hold_29 : decode cX8_hold 29 = .ok (.aload_n 0, 1) := by decide +kernel
theorem dX8_hold_30 : decode cX8_hold 30 = .ok (.getfield 10, 3) := by decide +kernel
theorem dX8_hold_33 : decode cX8_hold 33 = .ok (.iload_n 1, 1) := by decide +kernel
theorem dX8_hold_34 : decode cX8_hold 34 = .ok (.lload_n 2, 1) := by decide +kernel
theorem dX8_hold_35 : decode cX8_hold 35 = .ok (.invokevirtual 114, 3) := by decide +kernel
theorem dX8_hold_38 : decode cX8_hold 38 = .ok (.lload 4, 2) := by decide +kernel
theorem dX8_hold_40 : decode cX8_hold 40 = .ok (.lreturn, 1) := by decide +kernel
theorem dX8_held_0 : decode cX8_held 0 = .ok (.iload_n 1, 1) := by decide +kernel
theorem dX8_held_1 : decode cX8_held 1 = .ok (.bipush 7, 2) := by decide +kernel
theorem dX8_held_3 : decode cX8_held 3 = .ok (.invokestatic 52, 3) := by decide +kernel
theorem dX8_held_6 : decode cX8_held 6 = .ok (.ifCond .ne 13, 3) := by decide +kernel
theorem dX8_held_9 : decode cX8_held 9 = .ok (.new 104, 3) := by decide +kernel
theorem dX8_held_12 : decode cX8_held 12 = .ok (.dup, 1) := by decide +kernel
theorem dX8_held_13 : decode cX8_held 13 = .ok (.ldc 106, 2) := by decide +kernel
theorem dX8_held_15 : decode cX8_held 15 = .ok (.invokespecial 108, 3) := by decide +kernel
theorem dX8_held_18 : decode cX8_held 18 = .ok (.athrow, 1) := by decide +kernel
theorem dX8_held_19 : decode cX8_held 19 = .ok (.aload_n 0, 1) := by decide +kernel
theorem dX8_held_20 : decode cX8_held 20 = .ok (.getfield 10, 3) := by decide +kernel
theorem dX8_held_23 : decode cX8_held 23 = .ok (.iload_n 1, 1) := by decide +kernel
theorem dX8_held_24 : decode cX8_held 24 = .ok (.invokevirtual 111, 3) := by decide +kernel
theorem dX8_held_27 : decode cX8_held 27 = .ok (.lreturn, 1) := by decide +kernel
theorem dX8_index_0 : decode cX8_index 0 = .ok (.aload_n 0, 1) := by decide +kernel
theorem dX8_index_1 : decode cX8_index 1 = .ok (.iload_n 1, 1) := by decide +kernel
theorem dX8_index_2 : decode cX8_index 2 = .ok (.invokevirtual 71, 3) := by decide +kernel
theorem dX8_index_5 : decode cX8_index 5 = .ok (.astore_n 2, 1) := by decide +kernel
theorem dX8_index_6 : decode cX8_index 6 = .ok (.aload_n 2, 1) := by decide +kernel
theorem dX8_index_7 : decode cX8_index 7 = .ok (.ifnonnull 9, 3) := by decide +kernel
theorem dX8_index_10 : decode cX8_index 10 = .ok (.bipush (-101), 2) := by decide +kernel
theorem dX8_index_12 : decode cX8_index 12 = .ok (.invokestatic 100, 3) := by decide +kernel
theorem dX8_index_15 : decode cX8_index 15 = .ok (.lreturn, 1) := by decide +kernel
theorem dX8_index_16 : decode cX8_index 16 = .ok (.aload_n 0, 1) := by decide +kernel
theorem dX8_index_17 : decode cX8_index 17 = .ok (.aload_n 2, 1) := by decide +kernel
theorem dX8_index_18 : decode cX8_index 18 = .ok (.invokevirtual 118, 3) := by decide +kernel
theorem dX8_index_21 : decode cX8_index 21 = .ok (.lstore_n 3, 1) := by decide +kernel
theorem dX8_index_22 : decode cX8_index 22 = .ok (.lload_n 3, 1) := by decide +kernel
theorem dX8_index_23 : decode cX8_index 23 = .ok (.ldc2_w 122, 3) := by decide +kernel
theorem dX8_index_26 : decode cX8_index 26 = .ok (.lcmp, 1) := by decide +kernel
theorem dX8_index_27 : decode cX8_index 27 = .ok (.ifCond .ne 13, 3) := by decide +kernel
theorem dX8_index_30 : decode cX8_index 30 = .ok (.new 124, 3) := by decide +kernel
theorem dX8_index_33 : decode cX8_index 33 = .ok (.dup, 1) := by decide +kernel
theorem dX8_index_34 : decode cX8_index 34 = .ok (.ldc 126, 2) := by decide +kernel
theorem dX8_index_36 : decode cX8_index 36 = .ok (.invokespecial 128, 3) := by decide +kernel
theorem dX8_index_39 : decode cX8_index 39 = .ok (.athrow, 1) := by decide +kernel
theorem dX8_index_40 : decode cX8_index 40 = .ok (.lload_n 3, 1) := by decide +kernel
theorem dX8_index_41 : decode cX8_index 41 = .ok (.lreturn, 1) := by decide +kernel
theorem dX8_has_0 : decode cX8_has 0 = .ok (.aload_n 0, 1) := by decide +kernel
theorem dX8_has_1 : decode cX8_has 1 = .ok (.iload_n 1, 1) := by decide +kernel
theorem dX8_has_2 : decode cX8_has 2 = .ok (.invokevirtual 71, 3) := by decide +kernel
theorem dX8_has_5 : decode cX8_has 5 = .ok (.astore_n 2, 1) := by decide +kernel
theorem dX8_has_6 : decode cX8_has 6 = .ok (.aload_n 2, 1) := by decide +kernel
theorem dX8_has_7 : decode cX8_has 7 = .ok (.ifnonnull 6, 3) := by decide +kernel
theorem dX8_has_10 : decode cX8_has 10 = .ok (.bipush (-101), 2) := by decide +kernel
theorem dX8_has_12 : decode cX8_has 12 = .ok (.ireturn, 1) := by decide +kernel
theorem dX8_has_13 : decode cX8_has 13 = .ok (.aload_n 0, 1) := by decide +kernel
theorem dX8_has_14 : decode cX8_has 14 = .ok (.aload_n 2, 1) := by decide +kernel
theorem dX8_has_15 : decode cX8_has 15 = .ok (.invokevirtual 118, 3) := by decide +kernel
theorem dX8_has_18 : decode cX8_has 18 = .ok (.ldc2_w 122, 3) := by decide +kernel
theorem dX8_has_21 : decode cX8_has 21 = .ok (.lcmp, 1) := by decide +kernel
theorem dX8_has_22 : decode cX8_has 22 = .ok (.ifCond .ne 7, 3) := by decide +kernel
theorem dX8_has_25 : decode cX8_has 25 = .ok (.iconst 0, 1) := by decide +kernel
theorem dX8_has_26 : decode cX8_has 26 = .ok (.goto 4, 3) := by decide +kernel
theorem dX8_has_29 : decode cX8_has 29 = .ok (.iconst 1, 1) := by decide +kernel
theorem dX8_has_30 : decode cX8_has 30 = .ok (.ireturn, 1) := by decide +kernel
theorem dX8_element_0 : decode cX8_element 0 = .ok (.aload_n 0, 1) := by decide +kernel
theorem dX8_element_1 : decode cX8_element 1 = .ok (.iload_n 1, 1) := by decide +kernel
theorem dX8_element_2 : decode cX8_element 2 = .ok (.invokevirtual 71, 3) := by decide +kernel
theorem dX8_element_5 : decode cX8_element 5 = .ok (.astore 4, 2) := by decide +kernel
theorem dX8_element_7 : decode cX8_element 7 = .ok (.aload 4, 2) := by decide +kernel
theorem dX8_element_9 : decode cX8_element 9 = .ok (.ifnonnull 6, 3) := by decide +kernel
theorem dX8_element_12 : decode cX8_element 12 = .ok (.bipush (-101), 2) := by decide +kernel
theorem dX8_element_14 : decode cX8_element 14 = .ok (.ireturn, 1) := by decide +kernel
theorem dX8_element_15 : decode cX8_element 15 = .ok (.aload 4, 2) := by decide +kernel
theorem dX8_element_17 : decode cX8_element 17 = .ok (.lload_n 2, 1) := by decide +kernel
theorem dX8_element_18 : decode cX8_element 18 = .ok (.invokevirtual 129, 3) := by decide +kernel
theorem dX8_element_21 : decode cX8_element 21 = .ok (.ifCond .ne 13, 3) := by decide +kernel
theorem dX8_element_24 : decode cX8_element 24 = .ok (.new 124, 3) := by decide +kernel
theorem dX8_element_27 : decode cX8_element 27 = .ok (.dup, 1) := by decide +kernel
theorem dX8_element_28 : decode cX8_element 28 = .ok (.ldc 133, 2) := by decide +kernel
theorem dX8_element_30 : decode cX8_element 30 = .ok (.invokespecial 128, 3) := by decide +kernel
theorem dX8_element_33 : decode cX8_element 33 = .ok (.athrow, 1) := by decide +kernel
theorem dX8_element_34 : decode cX8_element 34 = .ok (.aload 4, 2) := by decide +kernel
theorem dX8_element_36 : decode cX8_element 36 = .ok (.aload_n 0, 1) := by decide +kernel
theorem dX8_element_37 : decode cX8_element 37 = .ok (.getfield 10, 3) := by decide +kernel
theorem dX8_element_40 : decode cX8_element 40 = .ok (.iconst 0, 1) := by decide +kernel
theorem dX8_element_41 : decode cX8_element 41 = .ok (.lload_n 2, 1) := by decide +kernel
theorem dX8_element_42 : decode cX8_element 42 = .ok (.invokevirtual 135, 3) := by decide +kernel
theorem dX8_element_45 : decode cX8_element 45 = .ok (.aload 4, 2) := by decide +kernel
theorem dX8_element_47 : decode cX8_element 47 = .ok (.getfield 93, 3) := by decide +kernel
theorem dX8_element_50 : decode cX8_element 50 = .ok (.ireturn, 1) := by decide +kernel
theorem dX8_go_0 : decode cX8_go 0 = .ok (.aload_n 0, 1) := by decide +kernel
theorem dX8_go_1 : decode cX8_go 1 = .ok (.iload_n 1, 1) := by decide +kernel
theorem dX8_go_2 : decode cX8_go 2 = .ok (.invokevirtual 71, 3) := by decide +kernel
theorem dX8_go_5 : decode cX8_go 5 = .ok (.astore 4, 2) := by decide +kernel
theorem dX8_go_7 : decode cX8_go 7 = .ok (.aload 4, 2) := by decide +kernel
theorem dX8_go_9 : decode cX8_go 9 = .ok (.ifnonnull 9, 3) := by decide +kernel
theorem dX8_go_12 : decode cX8_go 12 = .ok (.bipush (-101), 2) := by decide +kernel
theorem dX8_go_14 : decode cX8_go 14 = .ok (.invokestatic 100, 3) := by decide +kernel
theorem dX8_go_17 : decode cX8_go 17 = .ok (.lreturn, 1) := by decide +kernel
theorem dX8_go_18 : decode cX8_go 18 = .ok (.aload_n 0, 1) := by decide +kernel
theorem dX8_go_19 : decode cX8_go 19 = .ok (.aload 4, 2) := by decide +kernel
theorem dX8_go_21 : decode cX8_go 21 = .ok (.invokevirtual 118, 3) := by decide +kernel
theorem dX8_go_24 : decode cX8_go 24 = .ok (.lstore 5, 2) := by decide +kernel
theorem dX8_go_26 : decode cX8_go 26 = .ok (.lload 5, 2) := by decide +kernel
theorem dX8_go_28 : decode cX8_go 28 = .ok (.ldc2_w 79, 3) := by decide +kernel
theorem dX8_go_31 : decode cX8_go 31 = .ok (.lcmp, 1) := by decide +kernel
theorem dX8_go_32 : decode cX8_go 32 = .ok (.ifCond .ne 9, 3) := by decide +kernel
theorem dX8_go_35 : decode cX8_go 35 = .ok (.bipush (-103), 2) := by decide +kernel
theorem dX8_go_37 : decode cX8_go 37 = .ok (.invokestatic 100, 3) := by decide +kernel
theorem dX8_go_40 : decode cX8_go 40 = .ok (.lreturn, 1) := by decide +kernel
theorem dX8_go_41 : decode cX8_go 41 = .ok (.lload 5, 2) := by decide +kernel
theorem dX8_go_43 : decode cX8_go 43 = .ok (.ldc2_w 122, 3) := by decide +kernel
theorem dX8_go_46 : decode cX8_go 46 = .ok (.lcmp, 1) := by decide +kernel
theorem dX8_go_47 : decode cX8_go 47 = .ok (.ifCond .ne 13, 3) := by decide +kernel
theorem dX8_go_50 : decode cX8_go 50 = .ok (.new 124, 3) := by decide +kernel
theorem dX8_go_53 : decode cX8_go 53 = .ok (.dup, 1) := by decide +kernel
theorem dX8_go_54 : decode cX8_go 54 = .ok (.ldc 126, 2) := by decide +kernel
theorem dX8_go_56 : decode cX8_go 56 = .ok (.invokespecial 128, 3) := by decide +kernel
theorem dX8_go_59 : decode cX8_go 59 = .ok (.athrow, 1) := by decide +kernel
theorem dX8_go_60 : decode cX8_go 60 = .ok (.lload_n 2, 1) := by decide +kernel
theorem dX8_go_61 : decode cX8_go 61 = .ok (.ldc2_w 141, 3) := by decide +kernel
theorem dX8_go_64 : decode cX8_go 64 = .ok (.lload 5, 2) := by decide +kernel
theorem dX8_go_66 : decode cX8_go 66 = .ok (.lsub, 1) := by decide +kernel
theorem dX8_go_67 : decode cX8_go 67 = .ok (.lcmp, 1) := by decide +kernel
theorem dX8_go_68 : decode cX8_go 68 = .ok (.ifCond .gt 15, 3) := by decide +kernel
theorem dX8_go_71 : decode cX8_go 71 = .ok (.aload 4, 2) := by decide +kernel
theorem dX8_go_73 : decode cX8_go 73 = .ok (.lload 5, 2) := by decide +kernel
theorem dX8_go_75 : decode cX8_go 75 = .ok (.lload_n 2, 1) := by decide +kernel
theorem dX8_go_76 : decode cX8_go 76 = .ok (.ladd, 1) := by decide +kernel
theorem dX8_go_77 : decode cX8_go 77 = .ok (.invokevirtual 129, 3) := by decide +kernel
theorem dX8_go_80 : decode cX8_go 80 = .ok (.ifCond .ne 13, 3) := by decide +kernel
theorem dX8_go_83 : decode cX8_go 83 = .ok (.new 124, 3) := by decide +kernel
theorem dX8_go_86 : decode cX8_go 86 = .ok (.dup, 1) := by decide +kernel
theorem dX8_go_87 : decode cX8_go 87 = .ok (.ldc 143, 2) := by decide +kernel
theorem dX8_go_89 : decode cX8_go 89 = .ok (.invokespecial 128, 3) := by decide +kernel
theorem dX8_go_92 : decode cX8_go 92 = .ok (.athrow, 1) := by decide +kernel
theorem dX8_go_93 : decode cX8_go 93 = .ok (.aload 4, 2) := by decide +kernel
theorem dX8_go_95 : decode cX8_go 95 = .ok (.aload_n 0, 1) := by decide +kernel
theorem dX8_go_96 : decode cX8_go 96 = .ok (.getfield 10, 3) := by decide +kernel
theorem dX8_go_99 : decode cX8_go 99 = .ok (.iconst 0, 1) := by decide +kernel
theorem dX8_go_100 : decode cX8_go 100 = .ok (.lload 5, 2) := by decide +kernel
theorem dX8_go_102 : decode cX8_go 102 = .ok (.lload_n 2, 1) := by decide +kernel
theorem dX8_go_103 : decode cX8_go 103 = .ok (.ladd, 1) := by decide +kernel
theorem dX8_go_104 : decode cX8_go 104 = .ok (.invokevirtual 135, 3) := by decide +kernel
theorem dX8_go_107 : decode cX8_go 107 = .ok (.lload 5, 2) := by decide +kernel
theorem dX8_go_109 : decode cX8_go 109 = .ok (.lload_n 2, 1) := by decide +kernel
theorem dX8_go_110 : decode cX8_go 110 = .ok (.ladd, 1) := by decide +kernel
theorem dX8_go_111 : decode cX8_go 111 = .ok (.lreturn, 1) := by decide +kernel
theorem dX8_miss_0 : decode cX8_miss 0 = .ok (.iload_n 1, 1) := by decide +kernel
theorem dX8_miss_1 : decode cX8_miss 1 = .ok (.iconst 2, 1) := by decide +kernel
theorem dX8_miss_2 : decode cX8_miss 2 = .ok (.invokestatic 52, 3) := by decide +kernel
theorem dX8_miss_5 : decode cX8_miss 5 = .ok (.ifCond .ne 6, 3) := by decide +kernel
theorem dX8_miss_8 : decode cX8_miss 8 = .ok (.bipush (-102), 2) := by decide +kernel
theorem dX8_miss_10 : decode cX8_miss 10 = .ok (.ireturn, 1) := by decide +kernel
theorem dX8_miss_11 : decode cX8_miss 11 = .ok (.aload_n 0, 1) := by decide +kernel
theorem dX8_miss_12 : decode cX8_miss 12 = .ok (.getfield 22, 3) := by decide +kernel
theorem dX8_miss_15 : decode cX8_miss 15 = .ok (.getfield 145, 3) := by decide +kernel
theorem dX8_miss_18 : decode cX8_miss 18 = .ok (.ifCond .ne 6, 3) := by decide +kernel
theorem dX8_miss_21 : decode cX8_miss 21 = .ok (.bipush (-103), 2) := by decide +kernel
theorem dX8_miss_23 : decode cX8_miss 23 = .ok (.ireturn, 1) := by decide +kernel
theorem dX8_miss_24 : decode cX8_miss 24 = .ok (.iload_n 1, 1) := by decide +kernel
theorem dX8_miss_25 : decode cX8_miss 25 = .ok (.ifCond .ne 11, 3) := by decide +kernel
theorem dX8_miss_28 : decode cX8_miss 28 = .ok (.aload_n 0, 1) := by decide +kernel
theorem dX8_miss_29 : decode cX8_miss 29 = .ok (.getfield 22, 3) := by decide +kernel
theorem dX8_miss_32 : decode cX8_miss 32 = .ok (.getfield 148, 3) := by decide +kernel
theorem dX8_miss_35 : decode cX8_miss 35 = .ok (.ireturn, 1) := by decide +kernel
theorem dX8_miss_36 : decode cX8_miss 36 = .ok (.iload_n 1, 1) := by decide +kernel
theorem dX8_miss_37 : decode cX8_miss 37 = .ok (.iconst 1, 1) := by decide +kernel
theorem dX8_miss_38 : decode cX8_miss 38 = .ok (.if_icmp .ne 13, 3) := by decide +kernel
theorem dX8_miss_41 : decode cX8_miss 41 = .ok (.aload_n 0, 1) := by decide +kernel
theorem dX8_miss_42 : decode cX8_miss 42 = .ok (.getfield 22, 3) := by decide +kernel
theorem dX8_miss_45 : decode cX8_miss 45 = .ok (.getfield 151, 3) := by decide +kernel
theorem dX8_miss_48 : decode cX8_miss 48 = .ok (.goto 10, 3) := by decide +kernel
theorem dX8_miss_51 : decode cX8_miss 51 = .ok (.aload_n 0, 1) := by decide +kernel
theorem dX8_miss_52 : decode cX8_miss 52 = .ok (.getfield 22, 3) := by decide +kernel
theorem dX8_miss_55 : decode cX8_miss 55 = .ok (.getfield 154, 3) := by decide +kernel
theorem dX8_miss_58 : decode cX8_miss 58 = .ok (.ireturn, 1) := by decide +kernel
theorem dX8_within_0 : decode cX8_within 0 = .ok (.aload_n 0, 1) := by decide +kernel
theorem dX8_within_1 : decode cX8_within 1 = .ok (.iload_n 1, 1) := by decide +kernel
theorem dX8_within_2 : decode cX8_within 2 = .ok (.invokevirtual 71, 3) := by decide +kernel
theorem dX8_within_5 : decode cX8_within 5 = .ok (.astore_n 3, 1) := by decide +kernel
theorem dX8_within_6 : decode cX8_within 6 = .ok (.aload_n 0, 1) := by decide +kernel
theorem dX8_within_7 : decode cX8_within 7 = .ok (.iload_n 2, 1) := by decide +kernel
theorem dX8_within_8 : decode cX8_within 8 = .ok (.invokevirtual 71, 3) := by decide +kernel
theorem dX8_within_11 : decode cX8_within 11 = .ok (.astore 4, 2) := by decide +kernel
theorem dX8_within_13 : decode cX8_within 13 = .ok (.aload_n 3, 1) := by decide +kernel
theorem dX8_within_14 : decode cX8_within 14 = .ok (.ifnull 8, 3) := by decide +kernel
theorem dX8_within_17 : decode cX8_within 17 = .ok (.aload 4, 2) := by decide +kernel
theorem dX8_within_19 : decode cX8_within 19 = .ok (.ifnonnull 6, 3) := by decide +kernel
theorem dX8_within_22 : decode cX8_within 22 = .ok (.bipush (-101), 2) := by decide +kernel
theorem dX8_within_24 : decode cX8_within 24 = .ok (.ireturn, 1) := by decide +kernel
theorem dX8_within_25 : decode cX8_within 25 = .ok (.aload_n 3, 1) := by decide +kernel
theorem dX8_within_26 : decode cX8_within 26 = .ok (.aload 4, 2) := by decide +kernel
theorem dX8_within_28 : decode cX8_within 28 = .ok (.invokestatic 157, 3) := by decide +kernel
theorem dX8_within_31 : decode cX8_within 31 = .ok (.ifCond .eq 7, 3) := by decide +kernel
theorem dX8_within_34 : decode cX8_within 34 = .ok (.iconst 1, 1) := by decide +kernel
theorem dX8_within_35 : decode cX8_within 35 = .ok (.goto 4, 3) := by decide +kernel
theorem dX8_within_38 : decode cX8_within 38 = .ok (.iconst 0, 1) := by decide +kernel
theorem dX8_within_39 : decode cX8_within 39 = .ok (.ireturn, 1) := by decide +kernel
theorem dX8_array_0 : decode cX8_array 0 = .ok (.aload_n 0, 1) := by decide +kernel
theorem dX8_array_1 : decode cX8_array 1 = .ok (.iload_n 1, 1) := by decide +kernel
theorem dX8_array_2 : decode cX8_array 2 = .ok (.invokevirtual 71, 3) := by decide +kernel
theorem dX8_array_5 : decode cX8_array 5 = .ok (.astore_n 2, 1) := by decide +kernel
theorem dX8_array_6 : decode cX8_array 6 = .ok (.aload_n 2, 1) := by decide +kernel
theorem dX8_array_7 : decode cX8_array 7 = .ok (.ifnonnull 6, 3) := by decide +kernel
theorem dX8_array_10 : decode cX8_array 10 = .ok (.bipush (-101), 2) := by decide +kernel
theorem dX8_array_12 : decode cX8_array 12 = .ok (.ireturn, 1) := by decide +kernel
theorem dX8_array_13 : decode cX8_array 13 = .ok (.aload_n 0, 1) := by decide +kernel
theorem dX8_array_14 : decode cX8_array 14 = .ok (.getfield 44, 3) := by decide +kernel
theorem dX8_array_17 : decode cX8_array 17 = .ok (.bipush 6, 2) := by decide +kernel
theorem dX8_array_19 : decode cX8_array 19 = .ok (.if_icmp .lt 6, 3) := by decide +kernel
theorem dX8_array_22 : decode cX8_array 22 = .ok (.bipush (-104), 2) := by decide +kernel
theorem dX8_array_24 : decode cX8_array 24 = .ok (.ireturn, 1) := by decide +kernel
theorem dX8_array_25 : decode cX8_array 25 = .ok (.aload_n 2, 1) := by decide +kernel
theorem dX8_array_26 : decode cX8_array 26 = .ok (.getfield 75, 3) := by decide +kernel
theorem dX8_array_29 : decode cX8_array 29 = .ok (.ldc2_w 79, 3) := by decide +kernel
theorem dX8_array_32 : decode cX8_array 32 = .ok (.lcmp, 1) := by decide +kernel
theorem dX8_array_33 : decode cX8_array 33 = .ok (.ifCond .ne 13, 3) := by decide +kernel
theorem dX8_array_36 : decode cX8_array 36 = .ok (.new 161, 3) := by decide +kernel
theorem dX8_array_39 : decode cX8_array 39 = .ok (.dup, 1) := by decide +kernel
theorem dX8_array_40 : decode cX8_array 40 = .ok (.ldc 163, 2) := by decide +kernel
theorem dX8_array_42 : decode cX8_array 42 = .ok (.invokespecial 165, 3) := by decide +kernel
theorem dX8_array_45 : decode cX8_array 45 = .ok (.athrow, 1) := by decide +kernel
theorem dX8_array_46 : decode cX8_array 46 = .ok (.aload_n 2, 1) := by decide +kernel
theorem dX8_array_47 : decode cX8_array 47 = .ok (.getfield 75, 3) := by decide +kernel
theorem dX8_array_50 : decode cX8_array 50 = .ok (.ldc2_w 166, 3) := by decide +kernel
theorem dX8_array_53 : decode cX8_array 53 = .ok (.lcmp, 1) := by decide +kernel
theorem dX8_array_54 : decode cX8_array 54 = .ok (.ifCond .le 13, 3) := by decide +kernel
theorem dX8_array_57 : decode cX8_array 57 = .ok (.new 168, 3) := by decide +kernel
theorem dX8_array_60 : decode cX8_array 60 = .ok (.dup, 1) := by decide +kernel
theorem dX8_array_61 : decode cX8_array 61 = .ok (.ldc 170, 2) := by decide +kernel
theorem dX8_array_63 : decode cX8_array 63 = .ok (.invokespecial 172, 3) := by decide +kernel
theorem dX8_array_66 : decode cX8_array 66 = .ok (.athrow, 1) := by decide +kernel
theorem dX8_array_67 : decode cX8_array 67 = .ok (.aload_n 0, 1) := by decide +kernel
theorem dX8_array_68 : decode cX8_array 68 = .ok (.getfield 32, 3) := by decide +kernel
theorem dX8_array_71 : decode cX8_array 71 = .ok (.aload_n 0, 1) := by decide +kernel
theorem dX8_array_72 : decode cX8_array 72 = .ok (.getfield 44, 3) := by decide +kernel
theorem dX8_array_75 : decode cX8_array 75 = .ok (.aload_n 2, 1) := by decide +kernel
theorem dX8_array_76 : decode cX8_array 76 = .ok (.aastore, 1) := by decide +kernel
theorem dX8_array_77 : decode cX8_array 77 = .ok (.aload_n 0, 1) := by decide +kernel
theorem dX8_array_78 : decode cX8_array 78 = .ok (.getfield 37, 3) := by decide +kernel
theorem dX8_array_81 : decode cX8_array 81 = .ok (.aload_n 0, 1) := by decide +kernel
theorem dX8_array_82 : decode cX8_array 82 = .ok (.getfield 44, 3) := by decide +kernel
theorem dX8_array_85 : decode cX8_array 85 = .ok (.aaload, 1) := by decide +kernel
theorem dX8_array_86 : decode cX8_array 86 = .ok (.iconst 0, 1) := by decide +kernel
theorem dX8_array_87 : decode cX8_array 87 = .ok (.invokestatic 173, 3) := by decide +kernel
theorem dX8_array_90 : decode cX8_array 90 = .ok (.aload_n 0, 1) := by decide +kernel
theorem dX8_array_91 : decode cX8_array 91 = .ok (.dup, 1) := by decide +kernel
theorem dX8_array_92 : decode cX8_array 92 = .ok (.getfield 44, 3) := by decide +kernel
theorem dX8_array_95 : decode cX8_array 95 = .ok (.iconst 1, 1) := by decide +kernel
theorem dX8_array_96 : decode cX8_array 96 = .ok (.iadd, 1) := by decide +kernel
theorem dX8_array_97 : decode cX8_array 97 = .ok (.putfield 44, 3) := by decide +kernel
theorem dX8_array_100 : decode cX8_array 100 = .ok (.aload_n 0, 1) := by decide +kernel
theorem dX8_array_101 : decode cX8_array 101 = .ok (.getfield 44, 3) := by decide +kernel
theorem dX8_array_104 : decode cX8_array 104 = .ok (.iconst 1, 1) := by decide +kernel
theorem dX8_array_105 : decode cX8_array 105 = .ok (.isub, 1) := by decide +kernel
theorem dX8_array_106 : decode cX8_array 106 = .ok (.ireturn, 1) := by decide +kernel
theorem dX8_put_0 : decode cX8_put 0 = .ok (.aload_n 0, 1) := by decide +kernel
theorem dX8_put_1 : decode cX8_put 1 = .ok (.iload_n 1, 1) := by decide +kernel
theorem dX8_put_2 : decode cX8_put 2 = .ok (.invokevirtual 178, 3) := by decide +kernel
theorem dX8_put_5 : decode cX8_put 5 = .ok (.astore_n 3, 1) := by decide +kernel
theorem dX8_put_6 : decode cX8_put 6 = .ok (.aload_n 3, 1) := by decide +kernel
theorem dX8_put_7 : decode cX8_put 7 = .ok (.ifnonnull 6, 3) := by decide +kernel
theorem dX8_put_10 : decode cX8_put 10 = .ok (.bipush (-101), 2) := by decide +kernel
theorem dX8_put_12 : decode cX8_put 12 = .ok (.ireturn, 1) := by decide +kernel
theorem dX8_put_13 : decode cX8_put 13 = .ok (.aload_n 0, 1) := by decide +kernel
theorem dX8_put_14 : decode cX8_put 14 = .ok (.aload_n 3, 1) := by decide +kernel
theorem dX8_put_15 : decode cX8_put 15 = .ok (.invokevirtual 181, 3) := by decide +kernel
theorem dX8_put_18 : decode cX8_put 18 = .ok (.istore 4, 2) := by decide +kernel
theorem dX8_put_20 : decode cX8_put 20 = .ok (.iload 4, 2) := by decide +kernel
theorem dX8_put_22 : decode cX8_put 22 = .ok (.bipush (-2), 2) := by decide +kernel
theorem dX8_put_24 : decode cX8_put 24 = .ok (.if_icmp .ne 13, 3) := by decide +kernel
theorem dX8_put_27 : decode cX8_put 27 = .ok (.new 124, 3) := by decide +kernel
theorem dX8_put_30 : decode cX8_put 30 = .ok (.dup, 1) := by decide +kernel
theorem dX8_put_31 : decode cX8_put 31 = .ok (.ldc 184, 2) := by decide +kernel
theorem dX8_put_33 : decode cX8_put 33 = .ok (.invokespecial 128, 3) := by decide +kernel
theorem dX8_put_36 : decode cX8_put 36 = .ok (.athrow, 1) := by decide +kernel
theorem dX8_put_37 : decode cX8_put 37 = .ok (.aload_n 0, 1) := by decide +kernel
theorem dX8_put_38 : decode cX8_put 38 = .ok (.getfield 37, 3) := by decide +kernel
theorem dX8_put_41 : decode cX8_put 41 = .ok (.iload_n 1, 1) := by decide +kernel
theorem dX8_put_42 : decode cX8_put 42 = .ok (.aaload, 1) := by decide +kernel
theorem dX8_put_43 : decode cX8_put 43 = .ok (.iload 4, 2) := by decide +kernel
theorem dX8_put_45 : decode cX8_put 45 = .ok (.iaload, 1) := by decide +kernel
theorem dX8_put_46 : decode cX8_put 46 = .ok (.istore 5, 2) := by decide +kernel
theorem dX8_put_48 : decode cX8_put 48 = .ok (.aload_n 0, 1) := by decide +kernel
theorem dX8_put_49 : decode cX8_put 49 = .ok (.getfield 37, 3) := by decide +kernel
theorem dX8_put_52 : decode cX8_put 52 = .ok (.iload_n 1, 1) := by decide +kernel
theorem dX8_put_53 : decode cX8_put 53 = .ok (.aaload, 1) := by decide +kernel
theorem dX8_put_54 : decode cX8_put 54 = .ok (.iload 4, 2) := by decide +kernel
theorem dX8_put_56 : decode cX8_put 56 = .ok (.iload_n 2, 1) := by decide +kernel
theorem dX8_put_57 : decode cX8_put 57 = .ok (.iastore, 1) := by decide +kernel
theorem dX8_put_58 : decode cX8_put 58 = .ok (.iload 5, 2) := by decide +kernel
theorem dX8_put_60 : decode cX8_put 60 = .ok (.ireturn, 1) := by decide +kernel
theorem dX8_at_0 : decode cX8_at 0 = .ok (.aload_n 0, 1) := by decide +kernel
theorem dX8_at_1 : decode cX8_at 1 = .ok (.iload_n 1, 1) := by decide +kernel
theorem dX8_at_2 : decode cX8_at 2 = .ok (.invokevirtual 178, 3) := by decide +kernel
theorem dX8_at_5 : decode cX8_at 5 = .ok (.astore_n 2, 1) := by decide +kernel
theorem dX8_at_6 : decode cX8_at 6 = .ok (.aload_n 2, 1) := by decide +kernel
theorem dX8_at_7 : decode cX8_at 7 = .ok (.ifnonnull 6, 3) := by decide +kernel
theorem dX8_at_10 : decode cX8_at 10 = .ok (.bipush (-101), 2) := by decide +kernel
theorem dX8_at_12 : decode cX8_at 12 = .ok (.ireturn, 1) := by decide +kernel
theorem dX8_at_13 : decode cX8_at 13 = .ok (.aload_n 0, 1) := by decide +kernel
theorem dX8_at_14 : decode cX8_at 14 = .ok (.aload_n 2, 1) := by decide +kernel
theorem dX8_at_15 : decode cX8_at 15 = .ok (.invokevirtual 181, 3) := by decide +kernel
theorem dX8_at_18 : decode cX8_at 18 = .ok (.istore_n 3, 1) := by decide +kernel
theorem dX8_at_19 : decode cX8_at 19 = .ok (.iload_n 3, 1) := by decide +kernel
theorem dX8_at_20 : decode cX8_at 20 = .ok (.bipush (-2), 2) := by decide +kernel
theorem dX8_at_22 : decode cX8_at 22 = .ok (.if_icmp .ne 13, 3) := by decide +kernel
theorem dX8_at_25 : decode cX8_at 25 = .ok (.new 124, 3) := by decide +kernel
theorem dX8_at_28 : decode cX8_at 28 = .ok (.dup, 1) := by decide +kernel
theorem dX8_at_29 : decode cX8_at 29 = .ok (.ldc 184, 2) := by decide +kernel
theorem dX8_at_31 : decode cX8_at 31 = .ok (.invokespecial 128, 3) := by decide +kernel
theorem dX8_at_34 : decode cX8_at 34 = .ok (.athrow, 1) := by decide +kernel
theorem dX8_at_35 : decode cX8_at 35 = .ok (.aload_n 0, 1) := by decide +kernel
theorem dX8_at_36 : decode cX8_at 36 = .ok (.getfield 37, 3) := by decide +kernel
theorem dX8_at_39 : decode cX8_at 39 = .ok (.iload_n 1, 1) := by decide +kernel
theorem dX8_at_40 : decode cX8_at 40 = .ok (.aaload, 1) := by decide +kernel
theorem dX8_at_41 : decode cX8_at 41 = .ok (.iload_n 3, 1) := by decide +kernel
theorem dX8_at_42 : decode cX8_at 42 = .ok (.iaload, 1) := by decide +kernel
theorem dX8_at_43 : decode cX8_at 43 = .ok (.ireturn, 1) := by decide +kernel
theorem dX8_sum_0 : decode cX8_sum 0 = .ok (.aload_n 0, 1) := by decide +kernel
theorem dX8_sum_1 : decode cX8_sum 1 = .ok (.iload_n 1, 1) := by decide +kernel
theorem dX8_sum_2 : decode cX8_sum 2 = .ok (.invokevirtual 178, 3) := by decide +kernel
theorem dX8_sum_5 : decode cX8_sum 5 = .ok (.astore 5, 2) := by decide +kernel
theorem dX8_sum_7 : decode cX8_sum 7 = .ok (.aload 5, 2) := by decide +kernel
theorem dX8_sum_9 : decode cX8_sum 9 = .ok (.ifnonnull 9, 3) := by decide +kernel
theorem dX8_sum_12 : decode cX8_sum 12 = .ok (.bipush (-101), 2) := by decide +kernel
theorem dX8_sum_14 : decode cX8_sum 14 = .ok (.invokestatic 100, 3) := by decide +kernel
theorem dX8_sum_17 : decode cX8_sum 17 = .ok (.lreturn, 1) := by decide +kernel
theorem dX8_sum_18 : decode cX8_sum 18 = .ok (.iload_n 2, 1) := by decide +kernel
theorem dX8_sum_19 : decode cX8_sum 19 = .ok (.aload 5, 2) := by decide +kernel
theorem dX8_sum_21 : decode cX8_sum 21 = .ok (.getfield 93, 3) := by decide +kernel
theorem dX8_sum_24 : decode cX8_sum 24 = .ok (.iconst 1, 1) := by decide +kernel
theorem dX8_sum_25 : decode cX8_sum 25 = .ok (.isub, 1) := by decide +kernel
theorem dX8_sum_26 : decode cX8_sum 26 = .ok (.invokestatic 52, 3) := by decide +kernel
theorem dX8_sum_29 : decode cX8_sum 29 = .ok (.ifCond .ne 9, 3) := by decide +kernel
theorem dX8_sum_32 : decode cX8_sum 32 = .ok (.bipush (-102), 2) := by decide +kernel
theorem dX8_sum_34 : decode cX8_sum 34 = .ok (.invokestatic 100, 3) := by decide +kernel
theorem dX8_sum_37 : decode cX8_sum 37 = .ok (.lreturn, 1) := by decide +kernel
theorem dX8_sum_38 : decode cX8_sum 38 = .ok (.lconst 0, 1) := by decide +kernel
theorem dX8_sum_39 : decode cX8_sum 39 = .ok (.lstore 6, 2) := by decide +kernel
theorem dX8_sum_41 : decode cX8_sum 41 = .ok (.iconst 0, 1) := by decide +kernel
theorem dX8_sum_42 : decode cX8_sum 42 = .ok (.istore 8, 2) := by decide +kernel
theorem dX8_sum_44 : decode cX8_sum 44 = .ok (.iload 8, 2) := by decide +kernel
theorem dX8_sum_46 : decode cX8_sum 46 = .ok (.sipush 400, 3) := by decide +kernel
theorem dX8_sum_49 : decode cX8_sum 49 = .ok (.if_icmp .ge 62, 3) := by decide +kernel
theorem dX8_sum_52 : decode cX8_sum 52 = .ok (.iload 8, 2) := by decide +kernel
theorem dX8_sum_54 : decode cX8_sum 54 = .ok (.i2l, 1) := by decide +kernel
theorem dX8_sum_55 : decode cX8_sum 55 = .ok (.aload 5, 2) := by decide +kernel
theorem dX8_sum_57 : decode cX8_sum 57 = .ok (.getfield 75, 3) := by decide +kernel
theorem dX8_sum_60 : decode cX8_sum 60 = .ok (.lcmp, 1) := by decide +kernel
theorem dX8_sum_61 : decode cX8_sum 61 = .ok (.ifCond .ge 50, 3) := by decide +kernel
theorem dX8_sum_64 : decode cX8_sum 64 = .ok (.aload 5, 2) := by decide +kernel
theorem dX8_sum_66 : decode cX8_sum 66 = .ok (.aload_n 0, 1) := by decide +kernel
theorem dX8_sum_67 : decode cX8_sum 67 = .ok (.getfield 16, 3) := by decide +kernel
theorem dX8_sum_70 : decode cX8_sum 70 = .ok (.iconst 0, 1) := by decide +kernel
theorem dX8_sum_71 : decode cX8_sum 71 = .ok (.iload 8, 2) := by decide +kernel
theorem dX8_sum_73 : decode cX8_sum 73 = .ok (.i2l, 1) := by decide +kernel
theorem dX8_sum_74 : decode cX8_sum 74 = .ok (.invokevirtual 135, 3) := by decide +kernel
theorem dX8_sum_77 : decode cX8_sum 77 = .ok (.aload_n 0, 1) := by decide +kernel
theorem dX8_sum_78 : decode cX8_sum 78 = .ok (.getfield 16, 3) := by decide +kernel
theorem dX8_sum_81 : decode cX8_sum 81 = .ok (.iload_n 2, 1) := by decide +kernel
theorem dX8_sum_82 : decode cX8_sum 82 = .ok (.invokevirtual 111, 3) := by decide +kernel
theorem dX8_sum_85 : decode cX8_sum 85 = .ok (.lload_n 3, 1) := by decide +kernel
theorem dX8_sum_86 : decode cX8_sum 86 = .ok (.lcmp, 1) := by decide +kernel
theorem dX8_sum_87 : decode cX8_sum 87 = .ok (.ifCond .ne 18, 3) := by decide +kernel
theorem dX8_sum_90 : decode cX8_sum 90 = .ok (.lload 6, 2) := by decide +kernel
theorem dX8_sum_92 : decode cX8_sum 92 = .ok (.aload_n 0, 1) := by decide +kernel
theorem dX8_sum_93 : decode cX8_sum 93 = .ok (.getfield 37, 3) := by decide +kernel
theorem dX8_sum_96 : decode cX8_sum 96 = .ok (.iload_n 1, 1) := by decide +kernel
theorem dX8_sum_97 : decode cX8_sum 97 = .ok (.aaload, 1) := by decide +kernel
theorem dX8_sum_98 : decode cX8_sum 98 = .ok (.iload 8, 2) := by decide +kernel
theorem dX8_sum_100 : decode cX8_sum 100 = .ok (.iaload, 1) := by decide +kernel
theorem dX8_sum_101 : decode cX8_sum 101 = .ok (.i2l, 1) := by decide +kernel
theorem dX8_sum_102 : decode cX8_sum 102 = .ok (.ladd, 1) := by decide +kernel
theorem dX8_sum_103 : decode cX8_sum 103 = .ok (.lstore 6, 2) := by decide +kernel
theorem dX8_sum_105 : decode cX8_sum 105 = .ok (.iinc 8 1, 3) := by decide +kernel
theorem dX8_sum_108 : decode cX8_sum 108 = .ok (.goto (-64), 3) := by decide +kernel
theorem dX8_sum_111 : decode cX8_sum 111 = .ok (.lload 6, 2) := by decide +kernel
theorem dX8_sum_113 : decode cX8_sum 113 = .ok (.lreturn, 1) := by decide +kernel
theorem dX8_over_0 : decode cX8_over 0 = .ok (.aload_n 0, 1) := by decide +kernel
theorem dX8_over_1 : decode cX8_over 1 = .ok (.iload_n 1, 1) := by decide +kernel
theorem dX8_over_2 : decode cX8_over 2 = .ok (.invokevirtual 178, 3) := by decide +kernel
theorem dX8_over_5 : decode cX8_over 5 = .ok (.astore_n 2, 1) := by decide +kernel
theorem dX8_over_6 : decode cX8_over 6 = .ok (.aload_n 2, 1) := by decide +kernel
theorem dX8_over_7 : decode cX8_over 7 = .ok (.ifnonnull 8, 3) := by decide +kernel
theorem dX8_over_10 : decode cX8_over 10 = .ok (.bipush (-101), 2) := by decide +kernel
theorem dX8_over_12 : decode cX8_over 12 = .ok (.goto 7, 3) := by decide +kernel
theorem dX8_over_15 : decode cX8_over 15 = .ok (.aload_n 2, 1) := by decide +kernel
theorem dX8_over_16 : decode cX8_over 16 = .ok (.getfield 186, 3) := by decide +kernel
theorem dX8_over_19 : decode cX8_over 19 = .ok (.ireturn, 1) := by decide +kernel
theorem dX8_count_0 : decode cX8_count 0 = .ok (.iload_n 1, 1) := by decide +kernel
theorem dX8_count_1 : decode cX8_count 1 = .ok (.tableswitch 54 0 3 #[31, 36, 41, 49], 31) := by decide +kernel
theorem dX8_count_32 : decode cX8_count 32 = .ok (.aload_n 0, 1) := by decide +kernel
theorem dX8_count_33 : decode cX8_count 33 = .ok (.getfield 40, 3) := by decide +kernel
theorem dX8_count_36 : decode cX8_count 36 = .ok (.ireturn, 1) := by decide +kernel
theorem dX8_count_37 : decode cX8_count 37 = .ok (.aload_n 0, 1) := by decide +kernel
theorem dX8_count_38 : decode cX8_count 38 = .ok (.getfield 44, 3) := by decide +kernel
theorem dX8_count_41 : decode cX8_count 41 = .ok (.ireturn, 1) := by decide +kernel
theorem dX8_count_42 : decode cX8_count 42 = .ok (.aload_n 0, 1) := by decide +kernel
theorem dX8_count_43 : decode cX8_count 43 = .ok (.getfield 22, 3) := by decide +kernel
theorem dX8_count_46 : decode cX8_count 46 = .ok (.getfield 145, 3) := by decide +kernel
theorem dX8_count_49 : decode cX8_count 49 = .ok (.ireturn, 1) := by decide +kernel
theorem dX8_count_50 : decode cX8_count 50 = .ok (.aload_n 0, 1) := by decide +kernel
theorem dX8_count_51 : decode cX8_count 51 = .ok (.invokevirtual 187, 3) := by decide +kernel
theorem dX8_count_54 : decode cX8_count 54 = .ok (.ireturn, 1) := by decide +kernel
theorem dX8_count_55 : decode cX8_count 55 = .ok (.bipush (-102), 2) := by decide +kernel
theorem dX8_count_57 : decode cX8_count 57 = .ok (.ireturn, 1) := by decide +kernel
theorem dX8_clear_0 : decode cX8_clear 0 = .ok (.aload_n 0, 1) := by decide +kernel
theorem dX8_clear_1 : decode cX8_clear 1 = .ok (.getfield 40, 3) := by decide +kernel
theorem dX8_clear_4 : decode cX8_clear 4 = .ok (.istore_n 1, 1) := by decide +kernel
theorem dX8_clear_5 : decode cX8_clear 5 = .ok (.aload_n 0, 1) := by decide +kernel
theorem dX8_clear_6 : decode cX8_clear 6 = .ok (.iconst 0, 1) := by decide +kernel
theorem dX8_clear_7 : decode cX8_clear 7 = .ok (.putfield 40, 3) := by decide +kernel
theorem dX8_clear_10 : decode cX8_clear 10 = .ok (.aload_n 0, 1) := by decide +kernel
theorem dX8_clear_11 : decode cX8_clear 11 = .ok (.iconst 0, 1) := by decide +kernel
theorem dX8_clear_12 : decode cX8_clear 12 = .ok (.putfield 44, 3) := by decide +kernel
theorem dX8_clear_15 : decode cX8_clear 15 = .ok (.aload_n 0, 1) := by decide +kernel
theorem dX8_clear_16 : decode cX8_clear 16 = .ok (.getfield 10, 3) := by decide +kernel
theorem dX8_clear_19 : decode cX8_clear 19 = .ok (.invokevirtual 190, 3) := by decide +kernel
theorem dX8_clear_22 : decode cX8_clear 22 = .ok (.aload_n 0, 1) := by decide +kernel
theorem dX8_clear_23 : decode cX8_clear 23 = .ok (.getfield 22, 3) := by decide +kernel
theorem dX8_clear_26 : decode cX8_clear 26 = .ok (.invokevirtual 193, 3) := by decide +kernel
theorem dX8_clear_29 : decode cX8_clear 29 = .ok (.iload_n 1, 1) := by decide +kernel
theorem dX8_clear_30 : decode cX8_clear 30 = .ok (.ireturn, 1) := by decide +kernel
theorem dX8_isUpTo_0 : decode cX8_isUpTo 0 = .ok (.iload_n 0, 1) := by decide +kernel
theorem dX8_isUpTo_1 : decode cX8_isUpTo 1 = .ok (.ifCond .lt 12, 3) := by decide +kernel
theorem dX8_isUpTo_4 : decode cX8_isUpTo 4 = .ok (.iload_n 0, 1) := by decide +kernel
theorem dX8_isUpTo_5 : decode cX8_isUpTo 5 = .ok (.iload_n 1, 1) := by decide +kernel
theorem dX8_isUpTo_6 : decode cX8_isUpTo 6 = .ok (.if_icmp .gt 7, 3) := by decide +kernel
theorem dX8_isUpTo_9 : decode cX8_isUpTo 9 = .ok (.iconst 1, 1) := by decide +kernel
theorem dX8_isUpTo_10 : decode cX8_isUpTo 10 = .ok (.goto 4, 3) := by decide +kernel
theorem dX8_isUpTo_13 : decode cX8_isUpTo 13 = .ok (.iconst 0, 1) := by decide +kernel
theorem dX8_isUpTo_14 : decode cX8_isUpTo 14 = .ok (.ireturn, 1) := by decide +kernel
theorem dX8_longCode_0 : decode cX8_longCode 0 = .ok (.iload_n 0, 1) := by decide +kernel
theorem dX8_longCode_1 : decode cX8_longCode 1 = .ok (.i2l, 1) := by decide +kernel
theorem dX8_longCode_2 : decode cX8_longCode 2 = .ok (.ldc2_w 196, 3) := by decide +kernel
theorem dX8_longCode_5 : decode cX8_longCode 5 = .ok (.lsub, 1) := by decide +kernel
theorem dX8_longCode_6 : decode cX8_longCode 6 = .ok (.lreturn, 1) := by decide +kernel
theorem dX8_rangeOf_0 : decode cX8_rangeOf 0 = .ok (.iload_n 1, 1) := by decide +kernel
theorem dX8_rangeOf_1 : decode cX8_rangeOf 1 = .ok (.ifCond .lt 20, 3) := by decide +kernel
theorem dX8_rangeOf_4 : decode cX8_rangeOf 4 = .ok (.iload_n 1, 1) := by decide +kernel
theorem dX8_rangeOf_5 : decode cX8_rangeOf 5 = .ok (.aload_n 0, 1) := by decide +kernel
theorem dX8_rangeOf_6 : decode cX8_rangeOf 6 = .ok (.getfield 40, 3) := by decide +kernel
theorem dX8_rangeOf_9 : decode cX8_rangeOf 9 = .ok (.if_icmp .ge 12, 3) := by decide +kernel
theorem dX8_rangeOf_12 : decode cX8_rangeOf 12 = .ok (.aload_n 0, 1) := by decide +kernel
theorem dX8_rangeOf_13 : decode cX8_rangeOf 13 = .ok (.getfield 28, 3) := by decide +kernel
theorem dX8_rangeOf_16 : decode cX8_rangeOf 16 = .ok (.iload_n 1, 1) := by decide +kernel
theorem dX8_rangeOf_17 : decode cX8_rangeOf 17 = .ok (.aaload, 1) := by decide +kernel
theorem dX8_rangeOf_18 : decode cX8_rangeOf 18 = .ok (.goto 4, 3) := by decide +kernel
theorem dX8_rangeOf_21 : decode cX8_rangeOf 21 = .ok (.aconst_null, 1) := by decide +kernel
theorem dX8_rangeOf_22 : decode cX8_rangeOf 22 = .ok (.areturn, 1) := by decide +kernel
theorem dX8_baseOf_0 : decode cX8_baseOf 0 = .ok (.iload_n 1, 1) := by decide +kernel
theorem dX8_baseOf_1 : decode cX8_baseOf 1 = .ok (.ifCond .lt 20, 3) := by decide +kernel
theorem dX8_baseOf_4 : decode cX8_baseOf 4 = .ok (.iload_n 1, 1) := by decide +kernel
theorem dX8_baseOf_5 : decode cX8_baseOf 5 = .ok (.aload_n 0, 1) := by decide +kernel
theorem dX8_baseOf_6 : decode cX8_baseOf 6 = .ok (.getfield 44, 3) := by decide +kernel
theorem dX8_baseOf_9 : decode cX8_baseOf 9 = .ok (.if_icmp .ge 12, 3) := by decide +kernel
theorem dX8_baseOf_12 : decode cX8_baseOf 12 = .ok (.aload_n 0, 1) := by decide +kernel
theorem dX8_baseOf_13 : decode cX8_baseOf 13 = .ok (.getfield 32, 3) := by decide +kernel
theorem dX8_baseOf_16 : decode cX8_baseOf 16 = .ok (.iload_n 1, 1) := by decide +kernel
theorem dX8_baseOf_17 : decode cX8_baseOf 17 = .ok (.aaload, 1) := by decide +kernel
theorem dX8_baseOf_18 : decode cX8_baseOf 18 = .ok (.goto 4, 3) := by decide +kernel
theorem dX8_baseOf_21 : decode cX8_baseOf 21 = .ok (.aconst_null, 1) := by decide +kernel
theorem dX8_baseOf_22 : decode cX8_baseOf 22 = .ok (.areturn, 1) := by decide +kernel
theorem dX8_isFull_0 : decode cX8_isFull 0 = .ok (.aload_n 0, 1) := by decide +kernel
theorem dX8_isFull_1 : decode cX8_isFull 1 = .ok (.getfield 40, 3) := by decide +kernel
theorem dX8_isFull_4 : decode cX8_isFull 4 = .ok (.bipush 40, 2) := by decide +kernel
theorem dX8_isFull_6 : decode cX8_isFull 6 = .ok (.if_icmp .lt 7, 3) := by decide +kernel
theorem dX8_isFull_9 : decode cX8_isFull 9 = .ok (.iconst 1, 1) := by decide +kernel
theorem dX8_isFull_10 : decode cX8_isFull 10 = .ok (.goto 4, 3) := by decide +kernel
theorem dX8_isFull_13 : decode cX8_isFull 13 = .ok (.iconst 0, 1) := by decide +kernel
theorem dX8_isFull_14 : decode cX8_isFull 14 = .ok (.ireturn, 1) := by decide +kernel
theorem dX8_add_0 : decode cX8_add 0 = .ok (.aload_n 0, 1) := by decide +kernel
theorem dX8_add_1 : decode cX8_add 1 = .ok (.getfield 28, 3) := by decide +kernel
theorem dX8_add_4 : decode cX8_add 4 = .ok (.aload_n 0, 1) := by decide +kernel
theorem dX8_add_5 : decode cX8_add 5 = .ok (.getfield 40, 3) := by decide +kernel
theorem dX8_add_8 : decode cX8_add 8 = .ok (.aload_n 1, 1) := by decide +kernel
theorem dX8_add_9 : decode cX8_add 9 = .ok (.aastore, 1) := by decide +kernel
theorem dX8_add_10 : decode cX8_add 10 = .ok (.aload_n 0, 1) := by decide +kernel
theorem dX8_add_11 : decode cX8_add 11 = .ok (.dup, 1) := by decide +kernel
theorem dX8_add_12 : decode cX8_add 12 = .ok (.getfield 40, 3) := by decide +kernel
theorem dX8_add_15 : decode cX8_add 15 = .ok (.iconst 1, 1) := by decide +kernel
theorem dX8_add_16 : decode cX8_add 16 = .ok (.iadd, 1) := by decide +kernel
theorem dX8_add_17 : decode cX8_add 17 = .ok (.putfield 40, 3) := by decide +kernel
theorem dX8_add_20 : decode cX8_add 20 = .ok (.aload_n 1, 1) := by decide +kernel
theorem dX8_add_21 : decode cX8_add 21 = .ok (.getfield 186, 3) := by decide +kernel
theorem dX8_add_24 : decode cX8_add 24 = .ok (.ireturn, 1) := by decide +kernel
theorem dX8_addRow_0 : decode cX8_addRow 0 = .ok (.aload_n 0, 1) := by decide +kernel
theorem dX8_addRow_1 : decode cX8_addRow 1 = .ok (.invokevirtual 56, 3) := by decide +kernel
theorem dX8_addRow_4 : decode cX8_addRow 4 = .ok (.ifCond .eq 6, 3) := by decide +kernel
theorem dX8_addRow_7 : decode cX8_addRow 7 = .ok (.bipush (-104), 2) := by decide +kernel
theorem dX8_addRow_9 : decode cX8_addRow 9 = .ok (.ireturn, 1) := by decide +kernel
theorem dX8_addRow_10 : decode cX8_addRow 10 = .ok (.iload 6, 2) := by decide +kernel
theorem dX8_addRow_12 : decode cX8_addRow 12 = .ok (.ifCond .le 18, 3) := by decide +kernel
theorem dX8_addRow_15 : decode cX8_addRow 15 = .ok (.lload 4, 2) := by decide +kernel
theorem dX8_addRow_17 : decode cX8_addRow 17 = .ok (.lload_n 2, 1) := by decide +kernel
theorem dX8_addRow_18 : decode cX8_addRow 18 = .ok (.lcmp, 1) := by decide +kernel
theorem dX8_addRow_19 : decode cX8_addRow 19 = .ok (.ifCond .ge 7, 3) := by decide +kernel
theorem dX8_addRow_22 : decode cX8_addRow 22 = .ok (.iconst 1, 1) := by decide +kernel
theorem dX8_addRow_23 : decode cX8_addRow 23 = .ok (.goto 19, 3) := by decide +kernel
theorem dX8_addRow_26 : decode cX8_addRow 26 = .ok (.iconst 0, 1) := by decide +kernel
theorem dX8_addRow_27 : decode cX8_addRow 27 = .ok (.goto 15, 3) := by decide +kernel
theorem dX8_addRow_30 : decode cX8_addRow 30 = .ok (.lload 4, 2) := by decide +kernel
theorem dX8_addRow_32 : decode cX8_addRow 32 = .ok (.lload_n 2, 1) := by decide +kernel
theorem dX8_addRow_33 : decode cX8_addRow 33 = .ok (.lcmp, 1) := by decide +kernel
theorem dX8_addRow_34 : decode cX8_addRow 34 = .ok (.ifCond .le 7, 3) := by decide +kernel
theorem dX8_addRow_37 : decode cX8_addRow 37 = .ok (.iconst 1, 1) := by decide +kernel
theorem dX8_addRow_38 : decode cX8_addRow 38 = .ok (.goto 4, 3) := by decide +kernel
theorem dX8_addRow_41 : decode cX8_addRow 41 = .ok (.iconst 0, 1) := by decide +kernel
theorem dX8_addRow_42 : decode cX8_addRow 42 = .ok (.istore 7, 2) := by decide +kernel
theorem dX8_addRow_44 : decode cX8_addRow 44 = .ok (.iload 7, 2) := by decide +kernel
theorem dX8_addRow_46 : decode cX8_addRow 46 = .ok (.ifCond .eq 25, 3) := by decide +kernel
theorem dX8_addRow_49 : decode cX8_addRow 49 = .ok (.aload_n 0, 1) := by decide +kernel
theorem dX8_addRow_50 : decode cX8_addRow 50 = .ok (.new 198, 3) := by decide +kernel
theorem dX8_addRow_53 : decode cX8_addRow 53 = .ok (.dup, 1) := by decide +kernel
theorem dX8_addRow_54 : decode cX8_addRow 54 = .ok (.aload_n 0, 1) := by decide +kernel
theorem dX8_addRow_55 : decode cX8_addRow 55 = .ok (.getfield 40, 3) := by decide +kernel
theorem dX8_addRow_58 : decode cX8_addRow 58 = .ok (.iload_n 1, 1) := by decide +kernel
theorem dX8_addRow_59 : decode cX8_addRow 59 = .ok (.lload_n 2, 1) := by decide +kernel
theorem dX8_addRow_60 : decode cX8_addRow 60 = .ok (.lload_n 2, 1) := by decide +kernel
theorem dX8_addRow_61 : decode cX8_addRow 61 = .ok (.iload 6, 2) := by decide +kernel
theorem dX8_addRow_63 : decode cX8_addRow 63 = .ok (.lconst 0, 1) := by decide +kernel
theorem dX8_addRow_64 : decode cX8_addRow 64 = .ok (.invokespecial 200, 3) := by decide +kernel
theorem dX8_addRow_67 : decode cX8_addRow 67 = .ok (.invokevirtual 65, 3) := by decide +kernel
theorem dX8_addRow_70 : decode cX8_addRow 70 = .ok (.ireturn, 1) := by decide +kernel
theorem dX8_addRow_71 : decode cX8_addRow 71 = .ok (.iload 6, 2) := by decide +kernel
theorem dX8_addRow_73 : decode cX8_addRow 73 = .ok (.ifCond .le 16, 3) := by decide +kernel
theorem dX8_addRow_76 : decode cX8_addRow 76 = .ok (.lload 4, 2) := by decide +kernel
theorem dX8_addRow_78 : decode cX8_addRow 78 = .ok (.lload_n 2, 1) := by decide +kernel
theorem dX8_addRow_79 : decode cX8_addRow 79 = .ok (.lsub, 1) := by decide +kernel
theorem dX8_addRow_80 : decode cX8_addRow 80 = .ok (.iload 6, 2) := by decide +kernel
theorem dX8_addRow_82 : decode cX8_addRow 82 = .ok (.i2l, 1) := by decide +kernel
theorem dX8_addRow_83 : decode cX8_addRow 83 = .ok (.invokestatic 203, 3) := by decide +kernel
theorem dX8_addRow_86 : decode cX8_addRow 86 = .ok (.goto 14, 3) := by decide +kernel
theorem dX8_addRow_89 : decode cX8_addRow 89 = .ok (.lload_n 2, 1) := by decide +kernel
theorem dX8_addRow_90 : decode cX8_addRow 90 = .ok (.lload 4, 2) := by decide +kernel
theorem dX8_addRow_92 : decode cX8_addRow 92 = .ok (.lsub, 1) := by decide +kernel
theorem dX8_addRow_93 : decode cX8_addRow 93 = .ok (.iload 6, 2) := by decide +kernel
theorem dX8_addRow_95 : decode cX8_addRow 95 = .ok (.ineg, 1) := by decide +kernel
theorem dX8_addRow_96 : decode cX8_addRow 96 = .ok (.i2l, 1) := by decide +kernel
theorem dX8_addRow_97 : decode cX8_addRow 97 = .ok (.invokestatic 203, 3) := by decide +kernel
theorem dX8_addRow_100 : decode cX8_addRow 100 = .ok (.lstore 8, 2) := by decide +kernel
theorem dX8_addRow_102 : decode cX8_addRow 102 = .ok (.lload 8, 2) := by decide +kernel
theorem dX8_addRow_104 : decode cX8_addRow 104 = .ok (.lconst 0, 1) := by decide +kernel
theorem dX8_addRow_105 : decode cX8_addRow 105 = .ok (.lcmp, 1) := by decide +kernel
theorem dX8_addRow_106 : decode cX8_addRow 106 = .ok (.ifCond .lt 12, 3) := by decide +kernel
theorem dX8_addRow_109 : decode cX8_addRow 109 = .ok (.lload 8, 2) := by decide +kernel
theorem dX8_addRow_111 : decode cX8_addRow 111 = .ok (.ldc2_w 141, 3) := by decide +kernel
theorem dX8_addRow_114 : decode cX8_addRow 114 = .ok (.lcmp, 1) := by decide +kernel
theorem dX8_addRow_115 : decode cX8_addRow 115 = .ok (.ifCond .ne 7, 3) := by decide +kernel
theorem dX8_addRow_118 : decode cX8_addRow 118 = .ok (.iconst 1, 1) := by decide +kernel
theorem dX8_addRow_119 : decode cX8_addRow 119 = .ok (.goto 4, 3) := by decide +kernel
theorem dX8_addRow_122 : decode cX8_addRow 122 = .ok (.iconst 0, 1) := by decide +kernel
theorem dX8_addRow_123 : decode cX8_addRow 123 = .ok (.istore 10, 2) := by decide +kernel
theorem dX8_addRow_125 : decode cX8_addRow 125 = .ok (.aload_n 0, 1) := by decide +kernel
theorem dX8_addRow_126 : decode cX8_addRow 126 = .ok (.new 198, 3) := by decide +kernel
theorem dX8_addRow_129 : decode cX8_addRow 129 = .ok (.dup, 1) := by decide +kernel
theorem dX8_addRow_130 : decode cX8_addRow 130 = .ok (.aload_n 0, 1) := by decide +kernel
theorem dX8_addRow_131 : decode cX8_addRow 131 = .ok (.getfield 40, 3) := by decide +kernel
theorem dX8_addRow_134 : decode cX8_addRow 134 = .ok (.iload_n 1, 1) := by decide +kernel
theorem dX8_addRow_135 : decode cX8_addRow 135 = .ok (.lload_n 2, 1) := by decide +kernel
theorem dX8_addRow_136 : decode cX8_addRow 136 = .ok (.lload_n 2, 1) := by decide +kernel
theorem dX8_addRow_137 : decode cX8_addRow 137 = .ok (.lload 8, 2) := by decide +kernel
theorem dX8_addRow_139 : decode cX8_addRow 139 = .ok (.iload 6, 2) := by decide +kernel
theorem dX8_addRow_141 : decode cX8_addRow 141 = .ok (.i2l, 1) := by decide +kernel
theorem dX8_addRow_142 : decode cX8_addRow 142 = .ok (.lmul, 1) := by decide +kernel
theorem dX8_addRow_143 : decode cX8_addRow 143 = .ok (.ladd, 1) := by decide +kernel
theorem dX8_addRow_144 : decode cX8_addRow 144 = .ok (.iload 6, 2) := by decide +kernel
theorem dX8_addRow_146 : decode cX8_addRow 146 = .ok (.iload 10, 2) := by decide +kernel
theorem dX8_addRow_148 : decode cX8_addRow 148 = .ok (.ifCond .eq 9, 3) := by decide +kernel
theorem dX8_addRow_151 : decode cX8_addRow 151 = .ok (.ldc2_w 79, 3) := by decide +kernel
theorem dX8_addRow_154 : decode cX8_addRow 154 = .ok (.goto 7, 3) := by decide +kernel
theorem dX8_addRow_157 : decode cX8_addRow 157 = .ok (.lload 8, 2) := by decide +kernel
theorem dX8_addRow_159 : decode cX8_addRow 159 = .ok (.lconst 1, 1) := by decide +kernel
theorem dX8_addRow_160 : decode cX8_addRow 160 = .ok (.ladd, 1) := by decide +kernel
theorem dX8_addRow_161 : decode cX8_addRow 161 = .ok (.invokespecial 200, 3) := by decide +kernel
theorem dX8_addRow_164 : decode cX8_addRow 164 = .ok (.invokevirtual 65, 3) := by decide +kernel
theorem dX8_addRow_167 : decode cX8_addRow 167 = .ok (.ireturn, 1) := by decide +kernel
theorem dX8_addBeside_0 : decode cX8_addBeside 0 = .ok (.iconst 0, 1) := by decide +kernel
theorem dX8_addBeside_1 : decode cX8_addBeside 1 = .ok (.istore_n 3, 1) := by decide +kernel
theorem dX8_addBeside_2 : decode cX8_addBeside 2 = .ok (.lconst 1, 1) := by decide +kernel
theorem dX8_addBeside_3 : decode cX8_addBeside 3 = .ok (.lstore 4, 2) := by decide +kernel
theorem dX8_addBeside_5 : decode cX8_addBeside 5 = .ok (.aload_n 2, 1) := by decide +kernel
theorem dX8_addBeside_6 : decode cX8_addBeside 6 = .ok (.astore 6, 2) := by decide +kernel
theorem dX8_addBeside_8 : decode cX8_addBeside 8 = .ok (.aload 6, 2) := by decide +kernel
theorem dX8_addBeside_10 : decode cX8_addBeside 10 = .ok (.arraylength, 1) := by decide +kernel
theorem dX8_addBeside_11 : decode cX8_addBeside 11 = .ok (.istore 7, 2) := by decide +kernel
theorem dX8_addBeside_13 : decode cX8_addBeside 13 = .ok (.iconst 0, 1) := by decide +kernel
theorem dX8_addBeside_14 : decode cX8_addBeside 14 = .ok (.istore 8, 2) := by decide +kernel
theorem dX8_addBeside_16 : decode cX8_addBeside 16 = .ok (.iload 8, 2) := by decide +kernel
theorem dX8_addBeside_18 : decode cX8_addBeside 18 = .ok (.iload 7, 2) := by decide +kernel
theorem dX8_addBeside_20 : decode cX8_addBeside 20 = .ok (.if_icmp .ge 36, 3) := by decide +kernel
theorem dX8_addBeside_23 : decode cX8_addBeside 23 = .ok (.aload 6, 2) := by decide +kernel
theorem dX8_addBeside_25 : decode cX8_addBeside 25 = .ok (.iload 8, 2) := by decide +kernel
theorem dX8_addBeside_27 : decode cX8_addBeside 27 = .ok (.aaload, 1) := by decide +kernel
theorem dX8_addBeside_28 : decode cX8_addBeside 28 = .ok (.astore 9, 2) := by decide +kernel
theorem dX8_addBeside_30 : decode cX8_addBeside 30 = .ok (.iload_n 3, 1) := by decide +kernel
theorem dX8_addBeside_31 : decode cX8_addBeside 31 = .ok (.aload 9, 2) := by decide +kernel
theorem dX8_addBeside_33 : decode cX8_addBeside 33 = .ok (.getfield 93, 3) := by decide +kernel
theorem dX8_addBeside_36 : decode cX8_addBeside 36 = .ok (.iadd, 1) := by decide +kernel
theorem dX8_addBeside_37 : decode cX8_addBeside 37 = .ok (.istore_n 3, 1) := by decide +kernel
theorem dX8_addBeside_38 : decode cX8_addBeside 38 = .ok (.lload 4, 2) := by decide +kernel
theorem dX8_addBeside_40 : decode cX8_addBeside 40 = .ok (.aload 9, 2) := by decide +kernel
theorem dX8_addBeside_42 : decode cX8_addBeside 42 = .ok (.getfield 75, 3) := by decide +kernel
theorem dX8_addBeside_45 : decode cX8_addBeside 45 = .ok (.invokestatic 207, 3) := by decide +kernel
theorem dX8_addBeside_48 : decode cX8_addBeside 48 = .ok (.lstore 4, 2) := by decide +kernel
theorem dX8_addBeside_50 : decode cX8_addBeside 50 = .ok (.iinc 8 1, 3) := by decide +kernel
theorem dX8_addBeside_53 : decode cX8_addBeside 53 = .ok (.goto (-37), 3) := by decide +kernel
theorem dX8_addBeside_56 : decode cX8_addBeside 56 = .ok (.iload_n 3, 1) := by decide +kernel
theorem dX8_addBeside_57 : decode cX8_addBeside 57 = .ok (.bipush 8, 2) := by decide +kernel
theorem dX8_addBeside_59 : decode cX8_addBeside 59 = .ok (.if_icmp .le 6, 3) := by decide +kernel
theorem dX8_addBeside_62 : decode cX8_addBeside 62 = .ok (.bipush (-103), 2) := by decide +kernel
theorem dX8_addBeside_64 : decode cX8_addBeside 64 = .ok (.ireturn, 1) := by decide +kernel
theorem dX8_addBeside_65 : decode cX8_addBeside 65 = .ok (.aload_n 0, 1) := by decide +kernel
theorem dX8_addBeside_66 : decode cX8_addBeside 66 = .ok (.invokevirtual 56, 3) := by decide +kernel
theorem dX8_addBeside_69 : decode cX8_addBeside 69 = .ok (.ifCond .eq 6, 3) := by decide +kernel
theorem dX8_addBeside_72 : decode cX8_addBeside 72 = .ok (.bipush (-104), 2) := by decide +kernel
theorem dX8_addBeside_74 : decode cX8_addBeside 74 = .ok (.ireturn, 1) := by decide +kernel
theorem dX8_addBeside_75 : decode cX8_addBeside 75 = .ok (.aload_n 0, 1) := by decide +kernel
theorem dX8_addBeside_76 : decode cX8_addBeside 76 = .ok (.new 209, 3) := by decide +kernel
theorem dX8_addBeside_79 : decode cX8_addBeside 79 = .ok (.dup, 1) := by decide +kernel
theorem dX8_addBeside_80 : decode cX8_addBeside 80 = .ok (.aload_n 0, 1) := by decide +kernel
theorem dX8_addBeside_81 : decode cX8_addBeside 81 = .ok (.getfield 40, 3) := by decide +kernel
theorem dX8_addBeside_84 : decode cX8_addBeside 84 = .ok (.iload_n 1, 1) := by decide +kernel
theorem dX8_addBeside_85 : decode cX8_addBeside 85 = .ok (.iload_n 3, 1) := by decide +kernel
theorem dX8_addBeside_86 : decode cX8_addBeside 86 = .ok (.lload 4, 2) := by decide +kernel
theorem dX8_addBeside_88 : decode cX8_addBeside 88 = .ok (.aload_n 2, 1) := by decide +kernel
theorem dX8_addBeside_89 : decode cX8_addBeside 89 = .ok (.invokespecial 211, 3) := by decide +kernel
theorem dX8_addBeside_92 : decode cX8_addBeside 92 = .ok (.invokevirtual 65, 3) := by decide +kernel
theorem dX8_addBeside_95 : decode cX8_addBeside 95 = .ok (.ireturn, 1) := by decide +kernel
theorem dX8_placeOfHand_0 : decode cX8_placeOfHand 0 = .ok (.aload_n 1, 1) := by decide +kernel
theorem dX8_placeOfHand_1 : decode cX8_placeOfHand 1 = .ok (.aload_n 0, 1) := by decide +kernel
theorem dX8_placeOfHand_2 : decode cX8_placeOfHand 2 = .ok (.getfield 10, 3) := by decide +kernel
theorem dX8_placeOfHand_5 : decode cX8_placeOfHand 5 = .ok (.iconst 0, 1) := by decide +kernel
theorem dX8_placeOfHand_6 : decode cX8_placeOfHand 6 = .ok (.iconst 0, 1) := by decide +kernel
theorem dX8_placeOfHand_7 : decode cX8_placeOfHand 7 = .ok (.aload_n 0, 1) := by decide +kernel
theorem dX8_placeOfHand_8 : decode cX8_placeOfHand 8 = .ok (.getfield 22, 3) := by decide +kernel
theorem dX8_placeOfHand_11 : decode cX8_placeOfHand 11 = .ok (.invokevirtual 214, 3) := by decide +kernel
theorem dX8_placeOfHand_14 : decode cX8_placeOfHand 14 = .ok (.lreturn, 1) := by decide +kernel
theorem dX8_cellOfHand_0 : decode cX8_cellOfHand 0 = .ok (.aload_n 0, 1) := by decide +kernel
theorem dX8_cellOfHand_1 : decode cX8_cellOfHand 1 = .ok (.aload_n 1, 1) := by decide +kernel
theorem dX8_cellOfHand_2 : decode cX8_cellOfHand 2 = .ok (.invokevirtual 118, 3) := by decide +kernel
theorem dX8_cellOfHand_5 : decode cX8_cellOfHand 5 = .ok (.lstore_n 2, 1) := by decide +kernel
theorem dX8_cellOfHand_6 : decode cX8_cellOfHand 6 = .ok (.lload_n 2, 1) := by decide +kernel
theorem dX8_cellOfHand_7 : decode cX8_cellOfHand 7 = .ok (.lconst 0, 1) := by decide +kernel
theorem dX8_cellOfHand_8 : decode cX8_cellOfHand 8 = .ok (.lcmp, 1) := by decide +kernel
theorem dX8_cellOfHand_9 : decode cX8_cellOfHand 9 = .ok (.ifCond .lt 16, 3) := by decide +kernel
theorem dX8_cellOfHand_12 : decode cX8_cellOfHand 12 = .ok (.lload_n 2, 1) := by decide +kernel
theorem dX8_cellOfHand_13 : decode cX8_cellOfHand 13 = .ok (.ldc2_w 166, 3) := by decide +kernel
theorem dX8_cellOfHand_16 : decode cX8_cellOfHand 16 = .ok (.lcmp, 1) := by decide +kernel
theorem dX8_cellOfHand_17 : decode cX8_cellOfHand 17 = .ok (.ifCond .ge 8, 3) := by decide +kernel
theorem dX8_cellOfHand_20 : decode cX8_cellOfHand 20 = .ok (.lload_n 2, 1) := by decide +kernel
theorem dX8_cellOfHand_21 : decode cX8_cellOfHand 21 = .ok (.l2i, 1) := by decide +kernel
theorem dX8_cellOfHand_22 : decode cX8_cellOfHand 22 = .ok (.goto 5, 3) := by decide +kernel
theorem dX8_cellOfHand_25 : decode cX8_cellOfHand 25 = .ok (.bipush (-2), 2) := by decide +kernel
theorem dX8_cellOfHand_27 : decode cX8_cellOfHand 27 = .ok (.ireturn, 1) := by decide +kernel
theorem dX8_cellsInUse_0 : decode cX8_cellsInUse 0 = .ok (.iconst 0, 1) := by decide +kernel
theorem dX8_cellsInUse_1 : decode cX8_cellsInUse 1 = .ok (.istore_n 1, 1) := by decide +kernel
theorem dX8_cellsInUse_2 : decode cX8_cellsInUse 2 = .ok (.iconst 0, 1) := by decide +kernel
theorem dX8_cellsInUse_3 : decode cX8_cellsInUse 3 = .ok (.istore_n 2, 1) := by decide +kernel
theorem dX8_cellsInUse_4 : decode cX8_cellsInUse 4 = .ok (.iload_n 2, 1) := by decide +kernel
theorem dX8_cellsInUse_5 : decode cX8_cellsInUse 5 = .ok (.aload_n 0, 1) := by decide +kernel
theorem dX8_cellsInUse_6 : decode cX8_cellsInUse 6 = .ok (.getfield 44, 3) := by decide +kernel
theorem dX8_cellsInUse_9 : decode cX8_cellsInUse 9 = .ok (.if_icmp .ge 22, 3) := by decide +kernel
theorem dX8_cellsInUse_12 : decode cX8_cellsInUse 12 = .ok (.iload_n 1, 1) := by decide +kernel
theorem dX8_cellsInUse_13 : decode cX8_cellsInUse 13 = .ok (.aload_n 0, 1) := by decide +kernel
theorem dX8_cellsInUse_14 : decode cX8_cellsInUse 14 = .ok (.getfield 32, 3) := by decide +kernel
theorem dX8_cellsInUse_17 : decode cX8_cellsInUse 17 = .ok (.iload_n 2, 1) := by decide +kernel
theorem dX8_cellsInUse_18 : decode cX8_cellsInUse 18 = .ok (.aaload, 1) := by decide +kernel
theorem dX8_cellsInUse_19 : decode cX8_cellsInUse 19 = .ok (.getfield 75, 3) := by decide +kernel
theorem dX8_cellsInUse_22 : decode cX8_cellsInUse 22 = .ok (.l2i, 1) := by decide +kernel
theorem dX8_cellsInUse_23 : decode cX8_cellsInUse 23 = .ok (.iadd, 1) := by decide +kernel
theorem dX8_cellsInUse_24 : decode cX8_cellsInUse 24 = .ok (.istore_n 1, 1) := by decide +kernel
theorem dX8_cellsInUse_25 : decode cX8_cellsInUse 25 = .ok (.iinc 2 1, 3) := by decide +kernel
theorem dX8_cellsInUse_28 : decode cX8_cellsInUse 28 = .ok (.goto (-24), 3) := by decide +kernel
theorem dX8_cellsInUse_31 : decode cX8_cellsInUse 31 = .ok (.iload_n 1, 1) := by decide +kernel
theorem dX8_cellsInUse_32 : decode cX8_cellsInUse 32 = .ok (.ireturn, 1) := by decide +kernel
theorem dX8_liesWithin_0 : decode cX8_liesWithin 0 = .ok (.aload_n 0, 1) := by decide +kernel
theorem dX8_liesWithin_1 : decode cX8_liesWithin 1 = .ok (.getfield 93, 3) := by decide +kernel
theorem dX8_liesWithin_4 : decode cX8_liesWithin 4 = .ok (.aload_n 1, 1) := by decide +kernel
theorem dX8_liesWithin_5 : decode cX8_liesWithin 5 = .ok (.getfield 93, 3) := by decide +kernel
theorem dX8_liesWithin_8 : decode cX8_liesWithin 8 = .ok (.if_icmp .eq 5, 3) := by decide +kernel
theorem dX8_liesWithin_11 : decode cX8_liesWithin 11 = .ok (.iconst 0, 1) := by decide +kernel
theorem dX8_liesWithin_12 : decode cX8_liesWithin 12 = .ok (.ireturn, 1) := by decide +kernel
theorem dX8_liesWithin_13 : decode cX8_liesWithin 13 = .ok (.aload_n 0, 1) := by decide +kernel
theorem dX8_liesWithin_14 : decode cX8_liesWithin 14 = .ok (.getfield 75, 3) := by decide +kernel
theorem dX8_liesWithin_17 : decode cX8_liesWithin 17 = .ok (.lconst 0, 1) := by decide +kernel
theorem dX8_liesWithin_18 : decode cX8_liesWithin 18 = .ok (.lcmp, 1) := by decide +kernel
theorem dX8_liesWithin_19 : decode cX8_liesWithin 19 = .ok (.ifCond .ne 5, 3) := by decide +kernel
theorem dX8_liesWithin_22 : decode cX8_liesWithin 22 = .ok (.iconst 1, 1) := by decide +kernel
theorem dX8_liesWithin_23 : decode cX8_liesWithin 23 = .ok (.ireturn, 1) := by decide +kernel
theorem dX8_liesWithin_24 : decode cX8_liesWithin 24 = .ok (.iconst 0, 1) := by decide +kernel
theorem dX8_liesWithin_25 : decode cX8_liesWithin 25 = .ok (.istore_n 2, 1) := by decide +kernel
theorem dX8_liesWithin_26 : decode cX8_liesWithin 26 = .ok (.iload_n 2, 1) := by decide +kernel
theorem dX8_liesWithin_27 : decode cX8_liesWithin 27 = .ok (.aload_n 0, 1) := by decide +kernel
theorem dX8_liesWithin_28 : decode cX8_liesWithin 28 = .ok (.getfield 93, 3) := by decide +kernel
theorem dX8_liesWithin_31 : decode cX8_liesWithin 31 = .ok (.if_icmp .ge 42, 3) := by decide +kernel
theorem dX8_liesWithin_34 : decode cX8_liesWithin 34 = .ok (.aload_n 0, 1) := by decide +kernel
theorem dX8_liesWithin_35 : decode cX8_liesWithin 35 = .ok (.iload_n 2, 1) := by decide +kernel
theorem dX8_liesWithin_36 : decode cX8_liesWithin 36 = .ok (.invokevirtual 218, 3) := by decide +kernel
theorem dX8_liesWithin_39 : decode cX8_liesWithin 39 = .ok (.astore_n 3, 1) := by decide +kernel
theorem dX8_liesWithin_40 : decode cX8_liesWithin 40 = .ok (.aload_n 1, 1) := by decide +kernel
theorem dX8_liesWithin_41 : decode cX8_liesWithin 41 = .ok (.iload_n 2, 1) := by decide +kernel
theorem dX8_liesWithin_42 : decode cX8_liesWithin 42 = .ok (.invokevirtual 218, 3) := by decide +kernel
theorem dX8_liesWithin_45 : decode cX8_liesWithin 45 = .ok (.astore 4, 2) := by decide +kernel
theorem dX8_liesWithin_47 : decode cX8_liesWithin 47 = .ok (.aload_n 3, 1) := by decide +kernel
theorem dX8_liesWithin_48 : decode cX8_liesWithin 48 = .ok (.ifnull 17, 3) := by decide +kernel
theorem dX8_liesWithin_51 : decode cX8_liesWithin 51 = .ok (.aload 4, 2) := by decide +kernel
theorem dX8_liesWithin_53 : decode cX8_liesWithin 53 = .ok (.ifnull 12, 3) := by decide +kernel
theorem dX8_liesWithin_56 : decode cX8_liesWithin 56 = .ok (.aload_n 3, 1) := by decide +kernel
theorem dX8_liesWithin_57 : decode cX8_liesWithin 57 = .ok (.aload 4, 2) := by decide +kernel
theorem dX8_liesWithin_59 : decode cX8_liesWithin 59 = .ok (.invokevirtual 222, 3) := by decide +kernel
theorem dX8_liesWithin_62 : decode cX8_liesWithin 62 = .ok (.ifCond .ne 5, 3) := by decide +kernel
theorem dX8_liesWithin_65 : decode cX8_liesWithin 65 = .ok (.iconst 0, 1) := by decide +kernel
theorem dX8_liesWithin_66 : decode cX8_liesWithin 66 = .ok (.ireturn, 1) := by decide +kernel
theorem dX8_liesWithin_67 : decode cX8_liesWithin 67 = .ok (.iinc 2 1, 3) := by decide +kernel
theorem dX8_liesWithin_70 : decode cX8_liesWithin 70 = .ok (.goto (-44), 3) := by decide +kernel
theorem dX8_liesWithin_73 : decode cX8_liesWithin 73 = .ok (.iconst 1, 1) := by decide +kernel
theorem dX8_liesWithin_74 : decode cX8_liesWithin 74 = .ok (.ireturn, 1) := by decide +kernel
theorem dX8_quotient_0 : decode cX8_quotient 0 = .ok (.lload_n 2, 1) := by decide +kernel
theorem dX8_quotient_1 : decode cX8_quotient 1 = .ok (.lconst 1, 1) := by decide +kernel
theorem dX8_quotient_2 : decode cX8_quotient 2 = .ok (.lcmp, 1) := by decide +kernel
theorem dX8_quotient_3 : decode cX8_quotient 3 = .ok (.ifCond .ge 5, 3) := by decide +kernel
theorem dX8_quotient_6 : decode cX8_quotient 6 = .ok (.lconst 0, 1) := by decide +kernel
theorem dX8_quotient_7 : decode cX8_quotient 7 = .ok (.lreturn, 1) := by decide +kernel
theorem dX8_quotient_8 : decode cX8_quotient 8 = .ok (.lload_n 0, 1) := by decide +kernel
theorem dX8_quotient_9 : decode cX8_quotient 9 = .ok (.iconst 1, 1) := by decide +kernel
theorem dX8_quotient_10 : decode cX8_quotient 10 = .ok (.lushr, 1) := by decide +kernel
theorem dX8_quotient_11 : decode cX8_quotient 11 = .ok (.lload_n 2, 1) := by decide +kernel
theorem dX8_quotient_12 : decode cX8_quotient 12 = .ok (.ldiv, 1) := by decide +kernel
theorem dX8_quotient_13 : decode cX8_quotient 13 = .ok (.iconst 1, 1) := by decide +kernel
theorem dX8_quotient_14 : decode cX8_quotient 14 = .ok (.lshl, 1) := by decide +kernel
theorem dX8_quotient_15 : decode cX8_quotient 15 = .ok (.lstore 4, 2) := by decide +kernel
theorem dX8_quotient_17 : decode cX8_quotient 17 = .ok (.lload_n 0, 1) := by decide +kernel
theorem dX8_quotient_18 : decode cX8_quotient 18 = .ok (.lload 4, 2) := by decide +kernel
theorem dX8_quotient_20 : decode cX8_quotient 20 = .ok (.lload_n 2, 1) := by decide +kernel
theorem dX8_quotient_21 : decode cX8_quotient 21 = .ok (.lmul, 1) := by decide +kernel
theorem dX8_quotient_22 : decode cX8_quotient 22 = .ok (.lsub, 1) := by decide +kernel
theorem dX8_quotient_23 : decode cX8_quotient 23 = .ok (.lload_n 2, 1) := by decide +kernel
theorem dX8_quotient_24 : decode cX8_quotient 24 = .ok (.lcmp, 1) := by decide +kernel
theorem dX8_quotient_25 : decode cX8_quotient 25 = .ok (.ifCond .lt 10, 3) := by decide +kernel
theorem dX8_quotient_28 : decode cX8_quotient 28 = .ok (.lload 4, 2) := by decide +kernel
theorem dX8_quotient_30 : decode cX8_quotient 30 = .ok (.lconst 1, 1) := by decide +kernel
theorem dX8_quotient_31 : decode cX8_quotient 31 = .ok (.ladd, 1) := by decide +kernel
theorem dX8_quotient_32 : decode cX8_quotient 32 = .ok (.goto 5, 3) := by decide +kernel
theorem dX8_quotient_35 : decode cX8_quotient 35 = .ok (.lload 4, 2) := by decide +kernel
theorem dX8_quotient_37 : decode cX8_quotient 37 = .ok (.lreturn, 1) := by decide +kernel
theorem dX8_times_0 : decode cX8_times 0 = .ok (.lload_n 0, 1) := by decide +kernel
theorem dX8_times_1 : decode cX8_times 1 = .ok (.lconst 0, 1) := by decide +kernel
theorem dX8_times_2 : decode cX8_times 2 = .ok (.lcmp, 1) := by decide +kernel
theorem dX8_times_3 : decode cX8_times 3 = .ok (.ifCond .eq 9, 3) := by decide +kernel
theorem dX8_times_6 : decode cX8_times 6 = .ok (.lload_n 2, 1) := by decide +kernel
theorem dX8_times_7 : decode cX8_times 7 = .ok (.lconst 0, 1) := by decide +kernel
theorem dX8_times_8 : decode cX8_times 8 = .ok (.lcmp, 1) := by decide +kernel
theorem dX8_times_9 : decode cX8_times 9 = .ok (.ifCond .ne 5, 3) := by decide +kernel
theorem dX8_times_12 : decode cX8_times 12 = .ok (.lconst 0, 1) := by decide +kernel
theorem dX8_times_13 : decode cX8_times 13 = .ok (.lreturn, 1) := by decide +kernel
theorem dX8_times_14 : decode cX8_times 14 = .ok (.lload_n 0, 1) := by decide +kernel
theorem dX8_times_15 : decode cX8_times 15 = .ok (.ldc2_w 79, 3) := by decide +kernel
theorem dX8_times_18 : decode cX8_times 18 = .ok (.lcmp, 1) := by decide +kernel
theorem dX8_times_19 : decode cX8_times 19 = .ok (.ifCond .eq 21, 3) := by decide +kernel
theorem dX8_times_22 : decode cX8_times 22 = .ok (.lload_n 2, 1) := by decide +kernel
theorem dX8_times_23 : decode cX8_times 23 = .ok (.ldc2_w 79, 3) := by decide +kernel
theorem dX8_times_26 : decode cX8_times 26 = .ok (.lcmp, 1) := by decide +kernel
theorem dX8_times_27 : decode cX8_times 27 = .ok (.ifCond .eq 13, 3) := by decide +kernel
theorem dX8_times_30 : decode cX8_times 30 = .ok (.lload_n 0, 1) := by decide +kernel
theorem dX8_times_31 : decode cX8_times 31 = .ok (.ldc2_w 141, 3) := by decide +kernel
theorem dX8_times_34 : decode cX8_times 34 = .ok (.lload_n 2, 1) := by decide +kernel
theorem dX8_times_35 : decode cX8_times 35 = .ok (.ldiv, 1) := by decide +kernel
theorem dX8_times_36 : decode cX8_times 36 = .ok (.lcmp, 1) := by decide +kernel
theorem dX8_times_37 : decode cX8_times 37 = .ok (.ifCond .le 7, 3) := by decide +kernel
theorem dX8_times_40 : decode cX8_times 40 = .ok (.ldc2_w 79, 3) := by decide +kernel
theorem dX8_times_43 : decode cX8_times 43 = .ok (.lreturn, 1) := by decide +kernel
theorem dX8_times_44 : decode cX8_times 44 = .ok (.lload_n 0, 1) := by decide +kernel
theorem dX8_times_45 : decode cX8_times 45 = .ok (.lload_n 2, 1) := by decide +kernel
theorem dX8_times_46 : decode cX8_times 46 = .ok (.lmul, 1) := by decide +kernel
theorem dX8_times_47 : decode cX8_times 47 = .ok (.lreturn, 1) := by decide +kernel
theorem dX8_plus_0 : decode cX8_plus 0 = .ok (.lload_n 0, 1) := by decide +kernel
theorem dX8_plus_1 : decode cX8_plus 1 = .ok (.ldc2_w 79, 3) := by decide +kernel
theorem dX8_plus_4 : decode cX8_plus 4 = .ok (.lcmp, 1) := by decide +kernel
theorem dX8_plus_5 : decode cX8_plus 5 = .ok (.ifCond .eq 21, 3) := by decide +kernel
theorem dX8_plus_8 : decode cX8_plus 8 = .ok (.lload_n 2, 1) := by decide +kernel
theorem dX8_plus_9 : decode cX8_plus 9 = .ok (.ldc2_w 79, 3) := by decide +kernel
theorem dX8_plus_12 : decode cX8_plus 12 = .ok (.lcmp, 1) := by decide +kernel
theorem dX8_plus_13 : decode cX8_plus 13 = .ok (.ifCond .eq 13, 3) := by decide +kernel
theorem dX8_plus_16 : decode cX8_plus 16 = .ok (.lload_n 0, 1) := by decide +kernel
theorem dX8_plus_17 : decode cX8_plus 17 = .ok (.ldc2_w 141, 3) := by decide +kernel
theorem dX8_plus_20 : decode cX8_plus 20 = .ok (.lload_n 2, 1) := by decide +kernel
theorem dX8_plus_21 : decode cX8_plus 21 = .ok (.lsub, 1) := by decide +kernel
theorem dX8_plus_22 : decode cX8_plus 22 = .ok (.lcmp, 1) := by decide +kernel
theorem dX8_plus_23 : decode cX8_plus 23 = .ok (.ifCond .le 7, 3) := by decide +kernel
theorem dX8_plus_26 : decode cX8_plus 26 = .ok (.ldc2_w 79, 3) := by decide +kernel
theorem dX8_plus_29 : decode cX8_plus 29 = .ok (.lreturn, 1) := by decide +kernel
theorem dX8_plus_30 : decode cX8_plus 30 = .ok (.lload_n 0, 1) := by decide +kernel
theorem dX8_plus_31 : decode cX8_plus 31 = .ok (.lload_n 2, 1) := by decide +kernel
theorem dX8_plus_32 : decode cX8_plus 32 = .ok (.ladd, 1) := by decide +kernel
theorem dX8_plus_33 : decode cX8_plus 33 = .ok (.lreturn, 1) := by decide +kernel
theorem dX9_init_0 : decode cX9_init 0 = .ok (.aload_n 0, 1) := by decide +kernel
theorem dX9_init_1 : decode cX9_init 1 = .ok (.invokespecial 1, 3) := by decide +kernel
theorem dX9_init_4 : decode cX9_init 4 = .ok (.aload_n 0, 1) := by decide +kernel
theorem dX9_init_5 : decode cX9_init 5 = .ok (.bipush 40, 2) := by decide +kernel
theorem dX9_init_7 : decode cX9_init 7 = .ok (.newarray .int, 2) := by decide +kernel
theorem dX9_init_9 : decode cX9_init 9 = .ok (.putfield 7, 3) := by decide +kernel
theorem dX9_init_12 : decode cX9_init 12 = .ok (.aload_n 0, 1) := by decide +kernel
theorem dX9_init_13 : decode cX9_init 13 = .ok (.bipush 40, 2) := by decide +kernel
theorem dX9_init_15 : decode cX9_init 15 = .ok (.newarray .int, 2) := by decide +kernel
theorem dX9_init_17 : decode cX9_init 17 = .ok (.putfield 13, 3) := by decide +kernel
theorem dX9_init_20 : decode cX9_init 20 = .ok (.aload_n 0, 1) := by decide +kernel
theorem dX9_init_21 : decode cX9_init 21 = .ok (.bipush 40, 2) := by decide +kernel
theorem dX9_init_23 : decode cX9_init 23 = .ok (.newarray .int, 2) := by decide +kernel
theorem dX9_init_25 : decode cX9_init 25 = .ok (.putfield 16, 3) := by decide +kernel
theorem dX9_init_28 : decode cX9_init 28 = .ok (.aload_n 0, 1) := by decide +kernel
theorem dX9_init_29 : decode cX9_init 29 = .ok (.bipush 40, 2) := by decide +kernel
theorem dX9_init_31 : decode cX9_init 31 = .ok (.newarray .long, 2) := by decide +kernel
theorem dX9_init_33 : decode cX9_init 33 = .ok (.putfield 19, 3) := by decide +kernel
theorem dX9_init_36 : decode cX9_init 36 = .ok (.aload_n 0, 1) := by decide +kernel
theorem dX9_init_37 : decode cX9_init 37 = .ok (.bipush 40, 2) := by decide +kernel
theorem dX9_init_39 : decode cX9_init 39 = .ok (.newarray .long, 2) := by decide +kernel
theorem dX9_init_41 : decode cX9_init 41 = .ok (.putfield 23, 3) := by decide +kernel
theorem dX9_init_44 : decode cX9_init 44 = .ok (.aload_n 0, 1) := by decide +kernel
theorem dX9_init_45 : decode cX9_init 45 = .ok (.bipush 40, 2) := by decide +kernel
theorem dX9_init_47 : decode cX9_init 47 = .ok (.newarray .long, 2) := by decide +kernel
theorem dX9_init_49 : decode cX9_init 49 = .ok (.putfield 26, 3) := by decide +kernel
theorem dX9_init_52 : decode cX9_init 52 = .ok (.aload_n 0, 1) := by decide +kernel
theorem dX9_init_53 : decode cX9_init 53 = .ok (.bipush 40, 2) := by decide +kernel
theorem dX9_init_55 : decode cX9_init 55 = .ok (.newarray .int, 2) := by decide +kernel
theorem dX9_init_57 : decode cX9_init 57 = .ok (.putfield 29, 3) := by decide +kernel
theorem dX9_init_60 : decode cX9_init 60 = .ok (.aload_n 0, 1) := by decide +kernel
theorem dX9_init_61 : decode cX9_init 61 = .ok (.sipush 320, 3) := by decide +kernel
theorem dX9_init_64 : decode cX9_init 64 = .ok (.newarray .int, 2) := by decide +kernel
theorem dX9_init_66 : decode cX9_init 66 = .ok (.putfield 32, 3) := by decide +kernel
theorem dX9_init_69 : decode cX9_init 69 = .ok (.aload_n 0, 1) := by decide +kernel
theorem dX9_init_70 : decode cX9_init 70 = .ok (.sipush 320, 3) := by decide +kernel
theorem dX9_init_73 : decode cX9_init 73 = .ok (.newarray .boolean, 2) := by decide +kernel
theorem dX9_init_75 : decode cX9_init 75 = .ok (.putfield 35, 3) := by decide +kernel
theorem dX9_init_78 : decode cX9_init 78 = .ok (.aload_n 0, 1) := by decide +kernel
theorem dX9_init_79 : decode cX9_init 79 = .ok (.sipush 320, 3) := by decide +kernel
theorem dX9_init_82 : decode cX9_init 82 = .ok (.newarray .int, 2) := by decide +kernel
theorem dX9_init_84 : decode cX9_init 84 = .ok (.putfield 39, 3) := by decide +kernel
theorem dX9_init_87 : decode cX9_init 87 = .ok (.aload_n 0, 1) := by decide +kernel
theorem dX9_init_88 : decode cX9_init 88 = .ok (.bipush 8, 2) := by decide +kernel
theorem dX9_init_90 : decode cX9_init 90 = .ok (.newarray .long, 2) := by decide +kernel
theorem dX9_init_92 : decode cX9_init 92 = .ok (.putfield 42, 3) := by decide +kernel
theorem dX9_init_95 : decode cX9_init 95 = .ok (.aload_n 0, 1) := by decide +kernel
theorem dX9_init_96 : decode cX9_init 96 = .ok (.bipush 8, 2) := by decide +kernel
theorem dX9_init_98 : decode cX9_init 98 = .ok (.newarray .long, 2) := by decide +kernel
theorem dX9_init_100 : decode cX9_init 100 = .ok (.putfield 45, 3) := by decide +kernel
theorem dX9_init_103 : decode cX9_init 103 = .ok (.aload_n 0, 1) := by decide +kernel
theorem dX9_init_104 : decode cX9_init 104 = .ok (.bipush 6, 2) := by decide +kernel
theorem dX9_init_106 : decode cX9_init 106 = .ok (.newarray .int, 2) := by decide +kernel
theorem dX9_init_108 : decode cX9_init 108 = .ok (.putfield 48, 3) := by decide +kernel
theorem dX9_init_111 : decode cX9_init 111 = .ok (.aload_n 0, 1) := by decide +kernel
theorem dX9_init_112 : decode cX9_init 112 = .ok (.sipush 2400, 3) := by decide +kernel
theorem dX9_init_115 : decode cX9_init 115 = .ok (.newarray .int, 2) := by decide +kernel
theorem dX9_init_117 : decode cX9_init 117 = .ok (.putfield 51, 3) := by decide +kernel
theorem dX9_init_120 : decode cX9_init 120 = .ok (.return_, 1) := by decide +kernel
theorem dX9_in_0 : decode cX9_in 0 = .ok (.lload_n 0, 1) := by decide +kernel
theorem dX9_in_1 : decode cX9_in 1 = .ok (.lload_n 2, 1) := by decide +kernel
theorem dX9_in_2 : decode cX9_in 2 = .ok (.lcmp, 1) := by decide +kernel
theorem dX9_in_3 : decode cX9_in 3 = .ok (.ifCond .lt 14, 3) := by decide +kernel
theorem dX9_in_6 : decode cX9_in 6 = .ok (.lload_n 0, 1) := by decide +kernel
theorem dX9_in_7 : decode cX9_in 7 = .ok (.lload 4, 2) := by decide +kernel
theorem dX9_in_9 : decode cX9_in 9 = .ok (.lcmp, 1) := by decide +kernel
theorem dX9_in_10 : decode cX9_in 10 = .ok (.ifCond .gt 7, 3) := by decide +kernel
theorem dX9_in_13 : decode cX9_in 13 = .ok (.iconst 1, 1) := by decide +kernel
theorem dX9_in_14 : decode cX9_in 14 = .ok (.goto 4, 3) := by decide +kernel
theorem dX9_in_17 : decode cX9_in 17 = .ok (.iconst 0, 1) := by decide +kernel
theorem dX9_in_18 : decode cX9_in 18 = .ok (.ireturn, 1) := by decide +kernel
theorem dX9_noRange_0 : decode cX9_noRange 0 = .ok (.iload_n 1, 1) := by decide +kernel
theorem dX9_noRange_1 : decode cX9_noRange 1 = .ok (.i2l, 1) := by decide +kernel
theorem dX9_noRange_2 : decode cX9_noRange 2 = .ok (.lconst 0, 1) := by decide +kernel
theorem dX9_noRange_3 : decode cX9_noRange 3 = .ok (.aload_n 0, 1) := by decide +kernel
theorem dX9_noRange_4 : decode cX9_noRange 4 = .ok (.getfield 54, 3) := by decide +kernel
theorem dX9_noRange_7 : decode cX9_noRange 7 = .ok (.iconst 1, 1) := by decide +kernel
theorem dX9_noRange_8 : decode cX9_noRange 8 = .ok (.isub, 1) := by decide +kernel
theorem dX9_noRange_9 : decode cX9_noRange 9 = .ok (.i2l, 1) := by decide +kernel
theorem dX9_noRange_10 : decode cX9_noRange 10 = .ok (.invokestatic 58, 3) := by decide +kernel
theorem dX9_noRange_13 : decode cX9_noRange 13 = .ok (.ifCond .ne 7, 3) := by decide +kernel
theorem dX9_noRange_16 : decode cX9_noRange 16 = .ok (.iconst 1, 1) := by decide +kernel
theorem dX9_noRange_17 : decode cX9_noRange 17 = .ok (.goto 4, 3) := by decide +kernel
theorem dX9_noRange_20 : decode cX9_noRange 20 = .ok (.iconst 0, 1) := by decide +kernel
theorem dX9_noRange_21 : decode cX9_noRange 21 = .ok (.ireturn, 1) := by decide +kernel
theorem dX9_noArray_0 : decode cX9_noArray 0 = .ok (.iload_n 1, 1) := by decide +kernel
theorem dX9_noArray_1 : decode cX9_noArray 1 = .ok (.i2l, 1) := by decide +kernel
theorem dX9_noArray_2 : decode cX9_noArray 2 = .ok (.lconst 0, 1) := by decide +kernel
theorem dX9_noArray_3 : decode cX9_noArray 3 = .ok (.aload_n 0, 1) := by decide +kernel
theorem dX9_noArray_4 : decode cX9_noArray 4 = .ok (.getfield 62, 3) := by decide +kernel
theorem dX9_noArray_7 : decode cX9_noArray 7 = .ok (.iconst 1, 1) := by decide +kernel
theorem dX9_noArray_8 : decode cX9_noArray 8 = .ok (.isub, 1) := by decide +kernel
theorem dX9_noArray_9 : decode cX9_noArray 9 = .ok (.i2l, 1) := by decide +kernel
theorem dX9_noArray_10 : decode cX9_noArray 10 = .ok (.invokestatic 58, 3) := by decide +kernel
theorem dX9_noArray_13 : decode cX9_noArray 13 = .ok (.ifCond .ne 7, 3) := by decide +kernel
theorem dX9_noArray_16 : decode cX9_noArray 16 = .ok (.iconst 1, 1) := by decide +kernel
theorem dX9_noArray_17 : decode cX9_noArray 17 = .ok (.goto 4, 3) := by decide +kernel
theorem dX9_noArray_20 : decode cX9_noArray 20 = .ok (.iconst 0, 1) := by decide +kernel
theorem dX9_noArray_21 : decode cX9_noArray 21 = .ok (.ireturn, 1) := by decide +kernel
theorem dX9_thrown_0 : decode cX9_thrown 0 = .ok (.aload_n 0, 1) := by decide +kernel
theorem dX9_thrown_1 : decode cX9_thrown 1 = .ok (.getfield 65, 3) := by decide +kernel
theorem dX9_thrown_4 : decode cX9_thrown 4 = .ok (.ireturn, 1) := by decide +kernel
theorem dX9_stepsUp_0 : decode cX9_stepsUp 0 = .ok (.lload_n 2, 1) := by decide +kernel
theorem dX9_stepsUp_1 : decode cX9_stepsUp 1 = .ok (.lload_n 0, 1) := by decide +kernel
theorem dX9_stepsUp_2 : decode cX9_stepsUp 2 = .ok (.lsub, 1) := by decide +kernel
theorem dX9_stepsUp_3 : decode cX9_stepsUp 3 = .ok (.lstore 6, 2) := by decide +kernel
theorem dX9_stepsUp_5 : decode cX9_stepsUp 5 = .ok (.lload 6, 2) := by decide +kernel
theorem dX9_stepsUp_7 : decode cX9_stepsUp 7 = .ok (.lconst 0, 1) := by decide +kernel
theorem dX9_stepsUp_8 : decode cX9_stepsUp 8 = .ok (.lcmp, 1) := by decide +kernel
theorem dX9_stepsUp_9 : decode cX9_stepsUp 9 = .ok (.ifCond .lt 9, 3) := by decide +kernel
theorem dX9_stepsUp_12 : decode cX9_stepsUp 12 = .ok (.lload 6, 2) := by decide +kernel
theorem dX9_stepsUp_14 : decode cX9_stepsUp 14 = .ok (.lload 4, 2) := by decide +kernel
theorem dX9_stepsUp_16 : decode cX9_stepsUp 16 = .ok (.ldiv, 1) := by decide +kernel
theorem dX9_stepsUp_17 : decode cX9_stepsUp 17 = .ok (.lreturn, 1) := by decide +kernel
theorem dX9_stepsUp_18 : decode cX9_stepsUp 18 = .ok (.lload 4, 2) := by decide +kernel
theorem dX9_stepsUp_20 : decode cX9_stepsUp 20 = .ok (.lconst 1, 1) := by decide +kernel
theorem dX9_stepsUp_21 : decode cX9_stepsUp 21 = .ok (.lcmp, 1) := by decide +kernel
theorem dX9_stepsUp_22 : decode cX9_stepsUp 22 = .ok (.ifCond .ne 7, 3) := by decide +kernel
theorem dX9_stepsUp_25 : decode cX9_stepsUp 25 = .ok (.ldc2_w 68, 3) := by decide +kernel
theorem dX9_stepsUp_28 : decode cX9_stepsUp 28 = .ok (.lreturn, 1) := by decide +kernel
theorem dX9_stepsUp_29 : decode cX9_stepsUp 29 = .ok (.lload 6, 2) := by decide +kernel
theorem dX9_stepsUp_31 : decode cX9_stepsUp 31 = .ok (.iconst 1, 1) := by decide +kernel
theorem dX9_stepsUp_32 : decode cX9_stepsUp 32 = .ok (.lushr, 1) := by decide +kernel
theorem dX9_stepsUp_33 : decode cX9_stepsUp 33 = .ok (.lload 4, 2) := by decide +kernel
theorem dX9_stepsUp_35 : decode cX9_stepsUp 35 = .ok (.ldiv, 1) := by decide +kernel
theorem dX9_stepsUp_36 : decode cX9_stepsUp 36 = .ok (.lstore 8, 2) := by decide +kernel
theorem dX9_stepsUp_38 : decode cX9_stepsUp 38 = .ok (.ldc2_w 70, 3) := by decide +kernel
theorem dX9_stepsUp_41 : decode cX9_stepsUp 41 = .ok (.lload 8, 2) := by decide +kernel
theorem dX9_stepsUp_43 : decode cX9_stepsUp 43 = .ok (.lmul, 1) := by decide +kernel
theorem dX9_stepsUp_44 : decode cX9_stepsUp 44 = .ok (.lstore 10, 2) := by decide +kernel
theorem dX9_stepsUp_46 : decode cX9_stepsUp 46 = .ok (.lload 6, 2) := by decide +kernel
theorem dX9_stepsUp_48 : decode cX9_stepsUp 48 = .ok (.lload 10, 2) := by decide +kernel
theorem dX9_stepsUp_50 : decode cX9_stepsUp 50 = .ok (.lload 4, 2) := by decide +kernel
theorem dX9_stepsUp_52 : decode cX9_stepsUp 52 = .ok (.lmul, 1) := by decide +kernel
theorem dX9_stepsUp_53 : decode cX9_stepsUp 53 = .ok (.lsub, 1) := by decide +kernel
theorem dX9_stepsUp_54 : decode cX9_stepsUp 54 = .ok (.lstore 12, 2) := by decide +kernel
theorem dX9_stepsUp_56 : decode cX9_stepsUp 56 = .ok (.lload 12, 2) := by decide +kernel
theorem dX9_stepsUp_58 : decode cX9_stepsUp 58 = .ok (.lconst 0, 1) := by decide +kernel
theorem dX9_stepsUp_59 : decode cX9_stepsUp 59 = .ok (.lcmp, 1) := by decide +kernel
theorem dX9_stepsUp_60 : decode cX9_stepsUp 60 = .ok (.ifCond .lt 11, 3) := by decide +kernel
theorem dX9_stepsUp_63 : decode cX9_stepsUp 63 = .ok (.lload 12, 2) := by decide +kernel
theorem dX9_stepsUp_65 : decode cX9_stepsUp 65 = .ok (.lload 4, 2) := by decide +kernel
theorem dX9_stepsUp_67 : decode cX9_stepsUp 67 = .ok (.lcmp, 1) := by decide +kernel
theorem dX9_stepsUp_68 : decode cX9_stepsUp 68 = .ok (.ifCond .lt 19, 3) := by decide +kernel
theorem dX9_stepsUp_71 : decode cX9_stepsUp 71 = .ok (.lload 10, 2) := by decide +kernel
theorem dX9_stepsUp_73 : decode cX9_stepsUp 73 = .ok (.lconst 1, 1) := by decide +kernel
theorem dX9_stepsUp_74 : decode cX9_stepsUp 74 = .ok (.ladd, 1) := by decide +kernel
theorem dX9_stepsUp_75 : decode cX9_stepsUp 75 = .ok (.lstore 10, 2) := by decide +kernel
theorem dX9_stepsUp_77 : decode cX9_stepsUp 77 = .ok (.lload 12, 2) := by decide +kernel
theorem dX9_stepsUp_79 : decode cX9_stepsUp 79 = .ok (.lload 4, 2) := by decide +kernel
theorem dX9_stepsUp_81 : decode cX9_stepsUp 81 = .ok (.lsub, 1) := by decide +kernel
theorem dX9_stepsUp_82 : decode cX9_stepsUp 82 = .ok (.lstore 12, 2) := by decide +kernel
theorem dX9_stepsUp_84 : decode cX9_stepsUp 84 = .ok (.goto (-28), 3) := by decide +kernel
theorem dX9_stepsUp_87 : decode cX9_stepsUp 87 = .ok (.lload 10, 2) := by decide +kernel
theorem dX9_stepsUp_89 : decode cX9_stepsUp 89 = .ok (.lreturn, 1) := by decide +kernel
theorem dX9_singleSize_0 : decode cX9_singleSize 0 = .ok (.aload_n 0, 1) := by decide +kernel
theorem dX9_singleSize_1 : decode cX9_singleSize 1 = .ok (.getfield 7, 3) := by decide +kernel
theorem dX9_singleSize_4 : decode cX9_singleSize 4 = .ok (.iload_n 1, 1) := by decide +kernel
theorem dX9_singleSize_5 : decode cX9_singleSize 5 = .ok (.iaload, 1) := by decide +kernel
theorem dX9_singleSize_6 : decode cX9_singleSize 6 = .ok (.iconst 2, 1) := by decide +kernel
theorem dX9_singleSize_7 : decode cX9_singleSize 7 = .ok (.if_icmp .ne 61, 3) := by decide +kernel
theorem dX9_singleSize_10 : decode cX9_singleSize 10 = .ok (.aload_n 0, 1) := by decide +kernel
theorem dX9_singleSize_11 : decode cX9_singleSize 11 = .ok (.getfield 26, 3) := by decide +kernel
theorem dX9_singleSize_14 : decode cX9_singleSize 14 = .ok (.iload_n 1, 1) := by decide +kernel
theorem dX9_singleSize_15 : decode cX9_singleSize 15 = .ok (.laload, 1) := by decide +kernel
theorem dX9_singleSize_16 : decode cX9_singleSize 16 = .ok (.aload_n 0, 1) := by decide +kernel
theorem dX9_singleSize_17 : decode cX9_singleSize 17 = .ok (.getfield 23, 3) := by decide +kernel
theorem dX9_singleSize_20 : decode cX9_singleSize 20 = .ok (.iload_n 1, 1) := by decide +kernel
theorem dX9_singleSize_21 : decode cX9_singleSize 21 = .ok (.laload, 1) := by decide +kernel
theorem dX9_singleSize_22 : decode cX9_singleSize 22 = .ok (.lcmp, 1) := by decide +kernel
theorem dX9_singleSize_23 : decode cX9_singleSize 23 = .ok (.ifCond .lt 21, 3) := by decide +kernel
theorem dX9_singleSize_26 : decode cX9_singleSize 26 = .ok (.aload_n 0, 1) := by decide +kernel
theorem dX9_singleSize_27 : decode cX9_singleSize 27 = .ok (.getfield 26, 3) := by decide +kernel
theorem dX9_singleSize_30 : decode cX9_singleSize 30 = .ok (.iload_n 1, 1) := by decide +kernel
theorem dX9_singleSize_31 : decode cX9_singleSize 31 = .ok (.laload, 1) := by decide +kernel
theorem dX9_singleSize_32 : decode cX9_singleSize 32 = .ok (.aload_n 0, 1) := by decide +kernel
theorem dX9_singleSize_33 : decode cX9_singleSize 33 = .ok (.getfield 23, 3) := by decide +kernel
theorem dX9_singleSize_36 : decode cX9_singleSize 36 = .ok (.iload_n 1, 1) := by decide +kernel
theorem dX9_singleSize_37 : decode cX9_singleSize 37 = .ok (.laload, 1) := by decide +kernel
theorem dX9_singleSize_38 : decode cX9_singleSize 38 = .ok (.lsub, 1) := by decide +kernel
theorem dX9_singleSize_39 : decode cX9_singleSize 39 = .ok (.lconst 1, 1) := by decide +kernel
theorem dX9_singleSize_40 : decode cX9_singleSize 40 = .ok (.ladd, 1) := by decide +kernel
theorem dX9_singleSize_41 : decode cX9_singleSize 41 = .ok (.goto 26, 3) := by decide +kernel
theorem dX9_singleSize_44 : decode cX9_singleSize 44 = .ok (.aload_n 0, 1) := by decide +kernel
theorem dX9_singleSize_45 : decode cX9_singleSize 45 = .ok (.getfield 29, 3) := by decide +kernel
theorem dX9_singleSize_48 : decode cX9_singleSize 48 = .ok (.iload_n 1, 1) := by decide +kernel
theorem dX9_singleSize_49 : decode cX9_singleSize 49 = .ok (.iaload, 1) := by decide +kernel
theorem dX9_singleSize_50 : decode cX9_singleSize 50 = .ok (.i2l, 1) := by decide +kernel
theorem dX9_singleSize_51 : decode cX9_singleSize 51 = .ok (.aload_n 0, 1) := by decide +kernel
theorem dX9_singleSize_52 : decode cX9_singleSize 52 = .ok (.getfield 23, 3) := by decide +kernel
theorem dX9_singleSize_55 : decode cX9_singleSize 55 = .ok (.iload_n 1, 1) := by decide +kernel
theorem dX9_singleSize_56 : decode cX9_singleSize 56 = .ok (.laload, 1) := by decide +kernel
theorem dX9_singleSize_57 : decode cX9_singleSize 57 = .ok (.lsub, 1) := by decide +kernel
theorem dX9_singleSize_58 : decode cX9_singleSize 58 = .ok (.aload_n 0, 1) := by decide +kernel
theorem dX9_singleSize_59 : decode cX9_singleSize 59 = .ok (.getfield 26, 3) := by decide +kernel
theorem dX9_singleSize_62 : decode cX9_singleSize 62 = .ok (.iload_n 1, 1) := by decide +kernel
theorem dX9_singleSize_63 : decode cX9_singleSize 63 = .ok (.laload, 1) := by decide +kernel
theorem dX9_singleSize_64 : decode cX9_singleSize 64 = .ok (.ladd, 1) := by decide +kernel
theorem dX9_singleSize_65 : decode cX9_singleSize 65 = .ok (.lconst 1, 1) := by decide +kernel
theorem dX9_singleSize_66 : decode cX9_singleSize 66 = .ok (.ladd, 1) := by decide +kernel
theorem dX9_singleSize_67 : decode cX9_singleSize 67 = .ok (.lreturn, 1) := by decide +kernel
theorem dX9_singleSize_68 : decode cX9_singleSize 68 = .ok (.aload_n 0, 1) := by decide +kernel
theorem dX9_singleSize_69 : decode cX9_singleSize 69 = .ok (.getfield 29, 3) := by decide +kernel
theorem dX9_singleSize_72 : decode cX9_singleSize 72 = .ok (.iload_n 1, 1) := by decide +kernel
theorem dX9_singleSize_73 : decode cX9_singleSize 73 = .ok (.iaload, 1) := by decide +kernel
theorem dX9_singleSize_74 : decode cX9_singleSize 74 = .ok (.ifCond .le 7, 3) := by decide +kernel
theorem dX9_singleSize_77 : decode cX9_singleSize 77 = .ok (.iconst 1, 1) := by decide +kernel
theorem dX9_singleSize_78 : decode cX9_singleSize 78 = .ok (.goto 4, 3) := by decide +kernel
theorem dX9_singleSize_81 : decode cX9_singleSize 81 = .ok (.iconst 0, 1) := by decide +kernel
theorem dX9_singleSize_82 : decode cX9_singleSize 82 = .ok (.istore_n 2, 1) := by decide +kernel
theorem dX9_singleSize_83 : decode cX9_singleSize 83 = .ok (.iload_n 2, 1) := by decide +kernel
theorem dX9_singleSize_84 : decode cX9_singleSize 84 = .ok (.ifCond .eq 12, 3) := by decide +kernel
theorem dX9_singleSize_87 : decode cX9_singleSize 87 = .ok (.aload_n 0, 1) := by decide +kernel
theorem dX9_singleSize_88 : decode cX9_singleSize 88 = .ok (.getfield 23, 3) := by decide +kernel
theorem dX9_singleSize_91 : decode cX9_singleSize 91 = .ok (.iload_n 1, 1) := by decide +kernel
theorem dX9_singleSize_92 : decode cX9_singleSize 92 = .ok (.laload, 1) := by decide +kernel
theorem dX9_singleSize_93 : decode cX9_singleSize 93 = .ok (.goto 9, 3) := by decide +kernel
theorem dX9_singleSize_96 : decode cX9_singleSize 96 = .ok (.aload_n 0, 1) := by decide +kernel
theorem dX9_singleSize_97 : decode cX9_singleSize 97 = .ok (.getfield 26, 3) := by decide +kernel
theorem dX9_singleSize_100 : decode cX9_singleSize 100 = .ok (.iload_n 1, 1) := by decide +kernel
theorem dX9_singleSize_101 : decode cX9_singleSize 101 = .ok (.laload, 1) := by decide +kernel
theorem dX9_singleSize_102 : decode cX9_singleSize 102 = .ok (.lstore_n 3, 1) := by decide +kernel
theorem dX9_singleSize_103 : decode cX9_singleSize 103 = .ok (.iload_n 2, 1) := by decide +kernel
theorem dX9_singleSize_104 : decode cX9_singleSize 104 = .ok (.ifCond .eq 12, 3) := by decide +kernel
theorem dX9_singleSize_107 : decode cX9_singleSize 107 = .ok (.aload_n 0, 1) := by decide +kernel
theorem dX9_singleSize_108 : decode cX9_singleSize 108 = .ok (.getfield 26, 3) := by decide +kernel
theorem dX9_singleSize_111 : decode cX9_singleSize 111 = .ok (.iload_n 1, 1) := by decide +kernel
theorem dX9_singleSize_112 : decode cX9_singleSize 112 = .ok (.laload, 1) := by decide +kernel
theorem dX9_singleSize_113 : decode cX9_singleSize 113 = .ok (.goto 9, 3) := by decide +kernel
theorem dX9_singleSize_116 : decode cX9_singleSize 116 = .ok (.aload_n 0, 1) := by decide +kernel
theorem dX9_singleSize_117 : decode cX9_singleSize 117 = .ok (.getfield 23, 3) := by decide +kernel
theorem dX9_singleSize_120 : decode cX9_singleSize 120 = .ok (.iload_n 1, 1) := by decide +kernel
theorem dX9_singleSize_121 : decode cX9_singleSize 121 = .ok (.laload, 1) := by decide +kernel
theorem dX9_singleSize_122 : decode cX9_singleSize 122 = .ok (.lstore 5, 2) := by decide +kernel
theorem dX9_singleSize_124 : decode cX9_singleSize 124 = .ok (.lload 5, 2) := by decide +kernel
theorem dX9_singleSize_126 : decode cX9_singleSize 126 = .ok (.lload_n 3, 1) := by decide +kernel
theorem dX9_singleSize_127 : decode cX9_singleSize 127 = .ok (.lcmp, 1) := by decide +kernel
theorem dX9_singleSize_128 : decode cX9_singleSize 128 = .ok (.ifCond .ge 5, 3) := by decide +kernel
theorem dX9_singleSize_131 : decode cX9_singleSize 131 = .ok (.lconst 0, 1) := by decide +kernel
theorem dX9_singleSize_132 : decode cX9_singleSize 132 = .ok (.lreturn, 1) := by decide +kernel
theorem dX9_singleSize_133 : decode cX9_singleSize 133 = .ok (.lload_n 3, 1) := by decide +kernel
theorem dX9_singleSize_134 : decode cX9_singleSize 134 = .ok (.lload 5, 2) := by decide +kernel
theorem dX9_singleSize_136 : decode cX9_singleSize 136 = .ok (.iload_n 2, 1) := by decide +kernel
theorem dX9_singleSize_137 : decode cX9_singleSize 137 = .ok (.ifCond .eq 13, 3) := by decide +kernel
theorem dX9_singleSize_140 : decode cX9_singleSize 140 = .ok (.aload_n 0, 1) := by decide +kernel
theorem dX9_singleSize_141 : decode cX9_singleSize 141 = .ok (.getfield 29, 3) := by decide +kernel
theorem dX9_singleSize_144 : decode cX9_singleSize 144 = .ok (.iload_n 1, 1) := by decide +kernel
theorem dX9_singleSize_145 : decode cX9_singleSize 145 = .ok (.iaload, 1) := by decide +kernel
theorem dX9_singleSize_146 : decode cX9_singleSize 146 = .ok (.i2l, 1) := by decide +kernel
theorem dX9_singleSize_147 : decode cX9_singleSize 147 = .ok (.goto 11, 3) := by decide +kernel
theorem dX9_singleSize_150 : decode cX9_singleSize 150 = .ok (.aload_n 0, 1) := by decide +kernel
theorem dX9_singleSize_151 : decode cX9_singleSize 151 = .ok (.getfield 29, 3) := by decide +kernel
theorem dX9_singleSize_154 : decode cX9_singleSize 154 = .ok (.iload_n 1, 1) := by decide +kernel
theorem dX9_singleSize_155 : decode cX9_singleSize 155 = .ok (.iaload, 1) := by decide +kernel
theorem dX9_singleSize_156 : decode cX9_singleSize 156 = .ok (.i2l, 1) := by decide +kernel
theorem dX9_singleSize_157 : decode cX9_singleSize 157 = .ok (.lneg, 1) := by decide +kernel
theorem dX9_singleSize_158 : decode cX9_singleSize 158 = .ok (.invokestatic 72, 3) := by decide +kernel
theorem dX9_singleSize_161 : decode cX9_singleSize 161 = .ok (.lstore 7, 2) := by decide +kernel
theorem dX9_singleSize_163 : decode cX9_singleSize 163 = .ok (.lload 7, 2) := by decide +kernel
theorem dX9_singleSize_165 : decode cX9_singleSize 165 = .ok (.lconst 0, 1) := by decide +kernel
theorem dX9_singleSize_166 : decode cX9_singleSize 166 = .ok (.lcmp, 1) := by decide +kernel
theorem dX9_singleSize_167 : decode cX9_singleSize 167 = .ok (.ifCond .lt 12, 3) := by decide +kernel
theorem dX9_singleSize_170 : decode cX9_singleSize 170 = .ok (.lload 7, 2) := by decide +kernel
theorem dX9_singleSize_172 : decode cX9_singleSize 172 = .ok (.ldc2_w 76, 3) := by decide +kernel
theorem dX9_singleSize_175 : decode cX9_singleSize 175 = .ok (.lcmp, 1) := by decide +kernel
theorem dX9_singleSize_176 : decode cX9_singleSize 176 = .ok (.ifCond .ne 9, 3) := by decide +kernel
theorem dX9_singleSize_179 : decode cX9_singleSize 179 = .ok (.ldc2_w 68, 3) := by decide +kernel
theorem dX9_singleSize_182 : decode cX9_singleSize 182 = .ok (.goto 7, 3) := by decide +kernel
theorem dX9_singleSize_185 : decode cX9_singleSize 185 = .ok (.lload 7, 2) := by decide +kernel
theorem dX9_singleSize_187 : decode cX9_singleSize 187 = .ok (.lconst 1, 1) := by decide +kernel
theorem dX9_singleSize_188 : decode cX9_singleSize 188 = .ok (.ladd, 1) := by decide +kernel
theorem dX9_singleSize_189 : decode cX9_singleSize 189 = .ok (.lreturn, 1) := by decide +kernel
theorem dX9_addSingle_0 : decode cX9_addSingle 0 = .ok (.aload_n 0, 1) := by decide +kernel
theorem dX9_addSingle_1 : decode cX9_addSingle 1 = .ok (.getfield 54, 3) := by decide +kernel
theorem dX9_addSingle_4 : decode cX9_addSingle 4 = .ok (.bipush 40, 2) := by decide +kernel
theorem dX9_addSingle_6 : decode cX9_addSingle 6 = .ok (.if_icmp .ne 6, 3) := by decide +kernel
theorem dX9_addSingle_9 : decode cX9_addSingle 9 = .ok (.bipush (-104), 2) := by decide +kernel
theorem dX9_addSingle_11 : decode cX9_addSingle 11 = .ok (.ireturn, 1) := by decide +kernel
theorem dX9_addSingle_12 : decode cX9_addSingle 12 = .ok (.aload_n 0, 1) := by decide +kernel
theorem dX9_addSingle_13 : decode cX9_addSingle 13 = .ok (.getfield 54, 3) := by decide +kernel
theorem dX9_addSingle_16 : decode cX9_addSingle 16 = .ok (.istore 7, 2) := by decide +kernel
theorem dX9_addSingle_18 : decode cX9_addSingle 18 = .ok (.aload_n 0, 1) := by decide +kernel
theorem dX9_addSingle_19 : decode cX9_addSingle 19 = .ok (.getfield 7, 3) := by decide +kernel
theorem dX9_addSingle_22 : decode cX9_addSingle 22 = .ok (.iload 7, 2) := by decide +kernel
theorem dX9_addSingle_24 : decode cX9_addSingle 24 = .ok (.iload_n 1, 1) := by decide +kernel
theorem dX9_addSingle_25 : decode cX9_addSingle 25 = .ok (.iastore, 1) := by decide +kernel
theorem dX9_addSingle_26 : decode cX9_addSingle 26 = .ok (.aload_n 0, 1) := by decide +kernel
theorem dX9_addSingle_27 : decode cX9_addSingle 27 = .ok (.getfield 13, 3) := by decide +kernel
theorem dX9_addSingle_30 : decode cX9_addSingle 30 = .ok (.iload 7, 2) := by decide +kernel
theorem dX9_addSingle_32 : decode cX9_addSingle 32 = .ok (.iconst 0, 1) := by decide +kernel
theorem dX9_addSingle_33 : decode cX9_addSingle 33 = .ok (.iastore, 1) := by decide +kernel
theorem dX9_addSingle_34 : decode cX9_addSingle 34 = .ok (.aload_n 0, 1) := by decide +kernel
theorem dX9_addSingle_35 : decode cX9_addSingle 35 = .ok (.getfield 16, 3) := by decide +kernel
theorem dX9_addSingle_38 : decode cX9_addSingle 38 = .ok (.iload 7, 2) := by decide +kernel
theorem dX9_addSingle_40 : decode cX9_addSingle 40 = .ok (.iconst 1, 1) := by decide +kernel
theorem dX9_addSingle_41 : decode cX9_addSingle 41 = .ok (.iastore, 1) := by decide +kernel
theorem dX9_addSingle_42 : decode cX9_addSingle 42 = .ok (.aload_n 0, 1) := by decide +kernel
theorem dX9_addSingle_43 : decode cX9_addSingle 43 = .ok (.getfield 23, 3) := by decide +kernel
theorem dX9_addSingle_46 : decode cX9_addSingle 46 = .ok (.iload 7, 2) := by decide +kernel
theorem dX9_addSingle_48 : decode cX9_addSingle 48 = .ok (.lload_n 2, 1) := by decide +kernel
theorem dX9_addSingle_49 : decode cX9_addSingle 49 = .ok (.lastore, 1) := by decide +kernel
theorem dX9_addSingle_50 : decode cX9_addSingle 50 = .ok (.aload_n 0, 1) := by decide +kernel
theorem dX9_addSingle_51 : decode cX9_addSingle 51 = .ok (.getfield 26, 3) := by decide +kernel
theorem dX9_addSingle_54 : decode cX9_addSingle 54 = .ok (.iload 7, 2) := by decide +kernel
theorem dX9_addSingle_56 : decode cX9_addSingle 56 = .ok (.lload 4, 2) := by decide +kernel
theorem dX9_addSingle_58 : decode cX9_addSingle 58 = .ok (.lastore, 1) := by decide +kernel
theorem dX9_addSingle_59 : decode cX9_addSingle 59 = .ok (.aload_n 0, 1) := by decide +kernel
theorem dX9_addSingle_60 : decode cX9_addSingle 60 = .ok (.getfield 29, 3) := by decide +kernel
theorem dX9_addSingle_63 : decode cX9_addSingle 63 = .ok (.iload 7, 2) := by decide +kernel
theorem dX9_addSingle_65 : decode cX9_addSingle 65 = .ok (.iload 6, 2) := by decide +kernel
theorem dX9_addSingle_67 : decode cX9_addSingle 67 = .ok (.iastore, 1) := by decide +kernel
theorem dX9_addSingle_68 : decode cX9_addSingle 68 = .ok (.aload_n 0, 1) := by decide +kernel
theorem dX9_addSingle_69 : decode cX9_addSingle 69 = .ok (.getfield 32, 3) := by decide +kernel
theorem dX9_addSingle_72 : decode cX9_addSingle 72 = .ok (.bipush 8, 2) := by decide +kernel
theorem dX9_addSingle_74 : decode cX9_addSingle 74 = .ok (.iload 7, 2) := by decide +kernel
theorem dX9_addSingle_76 : decode cX9_addSingle 76 = .ok (.imul, 1) := by decide +kernel
theorem dX9_addSingle_77 : decode cX9_addSingle 77 = .ok (.iload 7, 2) := by decide +kernel
theorem dX9_addSingle_79 : decode cX9_addSingle 79 = .ok (.iastore, 1) := by decide +kernel
theorem dX9_addSingle_80 : decode cX9_addSingle 80 = .ok (.aload_n 0, 1) := by decide +kernel
theorem dX9_addSingle_81 : decode cX9_addSingle 81 = .ok (.getfield 35, 3) := by decide +kernel
theorem dX9_addSingle_84 : decode cX9_addSingle 84 = .ok (.bipush 8, 2) := by decide +kernel
theorem dX9_addSingle_86 : decode cX9_addSingle 86 = .ok (.iload 7, 2) := by decide +kernel
theorem dX9_addSingle_88 : decode cX9_addSingle 88 = .ok (.imul, 1) := by decide +kernel
theorem dX9_addSingle_89 : decode cX9_addSingle 89 = .ok (.iconst 0, 1) := by decide +kernel
theorem dX9_addSingle_90 : decode cX9_addSingle 90 = .ok (.bastore, 1) := by decide +kernel
theorem dX9_addSingle_91 : decode cX9_addSingle 91 = .ok (.aload_n 0, 1) := by decide +kernel
theorem dX9_addSingle_92 : decode cX9_addSingle 92 = .ok (.getfield 39, 3) := by decide +kernel
theorem dX9_addSingle_95 : decode cX9_addSingle 95 = .ok (.bipush 8, 2) := by decide +kernel
theorem dX9_addSingle_97 : decode cX9_addSingle 97 = .ok (.iload 7, 2) := by decide +kernel
theorem dX9_addSingle_99 : decode cX9_addSingle 99 = .ok (.imul, 1) := by decide +kernel
theorem dX9_addSingle_100 : decode cX9_addSingle 100 = .ok (.iconst 0, 1) := by decide +kernel
theorem dX9_addSingle_101 : decode cX9_addSingle 101 = .ok (.iastore, 1) := by decide +kernel
theorem dX9_addSingle_102 : decode cX9_addSingle 102 = .ok (.aload_n 0, 1) := by decide +kernel
theorem dX9_addSingle_103 : decode cX9_addSingle 103 = .ok (.getfield 19, 3) := by decide +kernel
theorem dX9_addSingle_106 : decode cX9_addSingle 106 = .ok (.iload 7, 2) := by decide +kernel
theorem dX9_addSingle_108 : decode cX9_addSingle 108 = .ok (.aload_n 0, 1) := by decide +kernel
theorem dX9_addSingle_109 : decode cX9_addSingle 109 = .ok (.iload 7, 2) := by decide +kernel
theorem dX9_addSingle_111 : decode cX9_addSingle 111 = .ok (.invokevirtual 78, 3) := by decide +kernel
theorem dX9_addSingle_114 : decode cX9_addSingle 114 = .ok (.lastore, 1) := by decide +kernel
theorem dX9_addSingle_115 : decode cX9_addSingle 115 = .ok (.aload_n 0, 1) := by decide +kernel
theorem dX9_addSingle_116 : decode cX9_addSingle 116 = .ok (.dup, 1) := by decide +kernel
theorem dX9_addSingle_117 : decode cX9_addSingle 117 = .ok (.getfield 54, 3) := by decide +kernel
theorem dX9_addSingle_120 : decode cX9_addSingle 120 = .ok (.iconst 1, 1) := by decide +kernel
theorem dX9_addSingle_121 : decode cX9_addSingle 121 = .ok (.iadd, 1) := by decide +kernel
theorem dX9_addSingle_122 : decode cX9_addSingle 122 = .ok (.putfield 54, 3) := by decide +kernel
theorem dX9_addSingle_125 : decode cX9_addSingle 125 = .ok (.iload 7, 2) := by decide +kernel
theorem dX9_addSingle_127 : decode cX9_addSingle 127 = .ok (.ireturn, 1) := by decide +kernel
theorem dX9_wholes_0 : decode cX9_wholes 0 = .ok (.aload_n 0, 1) := by decide +kernel
theorem dX9_wholes_1 : decode cX9_wholes 1 = .ok (.iconst 0, 1) := by decide +kernel
theorem dX9_wholes_2 : decode cX9_wholes 2 = .ok (.lload_n 1, 1) := by decide +kernel
theorem dX9_wholes_3 : decode cX9_wholes 3 = .ok (.lload_n 3, 1) := by decide +kernel
theorem dX9_wholes_4 : decode cX9_wholes 4 = .ok (.iconst 1, 1) := by decide +kernel
theorem dX9_wholes_5 : decode cX9_wholes 5 = .ok (.invokevirtual 82, 3) := by decide +kernel
theorem dX9_wholes_8 : decode cX9_wholes 8 = .ok (.ireturn, 1) := by decide +kernel
theorem dX9_signs_0 : decode cX9_signs 0 = .ok (.iload_n 1, 1) := by decide +kernel
theorem dX9_signs_1 : decode cX9_signs 1 = .ok (.i2l, 1) := by decide +kernel
theorem dX9_signs_2 : decode cX9_signs 2 = .ok (.lconst 0, 1) := by decide +kernel
theorem dX9_signs_3 : decode cX9_signs 3 = .ok (.ldc2_w 86, 3) := by decide +kernel
theorem dX9_signs_6 : decode cX9_signs 6 = .ok (.invokestatic 58, 3) := by decide +kernel
theorem dX9_signs_9 : decode cX9_signs 9 = .ok (.ifCond .eq 28, 3) := by decide +kernel
theorem dX9_signs_12 : decode cX9_signs 12 = .ok (.iload_n 2, 1) := by decide +kernel
theorem dX9_signs_13 : decode cX9_signs 13 = .ok (.i2l, 1) := by decide +kernel
theorem dX9_signs_14 : decode cX9_signs 14 = .ok (.lconst 0, 1) := by decide +kernel
theorem dX9_signs_15 : decode cX9_signs 15 = .ok (.ldc2_w 86, 3) := by decide +kernel
theorem dX9_signs_18 : decode cX9_signs 18 = .ok (.invokestatic 58, 3) := by decide +kernel
theorem dX9_signs_21 : decode cX9_signs 21 = .ok (.ifCond .eq 16, 3) := by decide +kernel
theorem dX9_signs_24 : decode cX9_signs 24 = .ok (.aload_n 0, 1) := by decide +kernel
theorem dX9_signs_25 : decode cX9_signs 25 = .ok (.iconst 1, 1) := by decide +kernel
theorem dX9_signs_26 : decode cX9_signs 26 = .ok (.iload_n 1, 1) := by decide +kernel
theorem dX9_signs_27 : decode cX9_signs 27 = .ok (.i2l, 1) := by decide +kernel
theorem dX9_signs_28 : decode cX9_signs 28 = .ok (.iload_n 2, 1) := by decide +kernel
theorem dX9_signs_29 : decode cX9_signs 29 = .ok (.i2l, 1) := by decide +kernel
theorem dX9_signs_30 : decode cX9_signs 30 = .ok (.iconst 1, 1) := by decide +kernel
theorem dX9_signs_31 : decode cX9_signs 31 = .ok (.invokevirtual 82, 3) := by decide +kernel
theorem dX9_signs_34 : decode cX9_signs 34 = .ok (.goto 5, 3) := by decide +kernel
theorem dX9_signs_37 : decode cX9_signs 37 = .ok (.bipush (-102), 2) := by decide +kernel
theorem dX9_signs_39 : decode cX9_signs 39 = .ok (.ireturn, 1) := by decide +kernel
theorem dX9_names_0 : decode cX9_names 0 = .ok (.iload_n 1, 1) := by decide +kernel
theorem dX9_names_1 : decode cX9_names 1 = .ok (.i2l, 1) := by decide +kernel
theorem dX9_names_2 : decode cX9_names 2 = .ok (.lconst 1, 1) := by decide +kernel
theorem dX9_names_3 : decode cX9_names 3 = .ok (.ldc2_w 88, 3) := by decide +kernel
theorem dX9_names_6 : decode cX9_names 6 = .ok (.invokestatic 58, 3) := by decide +kernel
theorem dX9_names_9 : decode cX9_names 9 = .ok (.ifCond .eq 42, 3) := by decide +kernel
theorem dX9_names_12 : decode cX9_names 12 = .ok (.iload_n 2, 1) := by decide +kernel
theorem dX9_names_13 : decode cX9_names 13 = .ok (.i2l, 1) := by decide +kernel
theorem dX9_names_14 : decode cX9_names 14 = .ok (.lconst 0, 1) := by decide +kernel
theorem dX9_names_15 : decode cX9_names 15 = .ok (.iload_n 1, 1) := by decide +kernel
theorem dX9_names_16 : decode cX9_names 16 = .ok (.iconst 1, 1) := by decide +kernel
theorem dX9_names_17 : decode cX9_names 17 = .ok (.isub, 1) := by decide +kernel
theorem dX9_names_18 : decode cX9_names 18 = .ok (.i2l, 1) := by decide +kernel
theorem dX9_names_19 : decode cX9_names 19 = .ok (.invokestatic 58, 3) := by decide +kernel
theorem dX9_names_22 : decode cX9_names 22 = .ok (.ifCond .eq 29, 3) := by decide +kernel
theorem dX9_names_25 : decode cX9_names 25 = .ok (.iload_n 3, 1) := by decide +kernel
theorem dX9_names_26 : decode cX9_names 26 = .ok (.i2l, 1) := by decide +kernel
theorem dX9_names_27 : decode cX9_names 27 = .ok (.lconst 0, 1) := by decide +kernel
theorem dX9_names_28 : decode cX9_names 28 = .ok (.iload_n 1, 1) := by decide +kernel
theorem dX9_names_29 : decode cX9_names 29 = .ok (.iconst 1, 1) := by decide +kernel
theorem dX9_names_30 : decode cX9_names 30 = .ok (.isub, 1) := by decide +kernel
theorem dX9_names_31 : decode cX9_names 31 = .ok (.i2l, 1) := by decide +kernel
theorem dX9_names_32 : decode cX9_names 32 = .ok (.invokestatic 58, 3) := by decide +kernel
theorem dX9_names_35 : decode cX9_names 35 = .ok (.ifCond .eq 16, 3) := by decide +kernel
theorem dX9_names_38 : decode cX9_names 38 = .ok (.aload_n 0, 1) := by decide +kernel
theorem dX9_names_39 : decode cX9_names 39 = .ok (.iconst 2, 1) := by decide +kernel
theorem dX9_names_40 : decode cX9_names 40 = .ok (.iload_n 2, 1) := by decide +kernel
theorem dX9_names_41 : decode cX9_names 41 = .ok (.i2l, 1) := by decide +kernel
theorem dX9_names_42 : decode cX9_names 42 = .ok (.iload_n 3, 1) := by decide +kernel
theorem dX9_names_43 : decode cX9_names 43 = .ok (.i2l, 1) := by decide +kernel
theorem dX9_names_44 : decode cX9_names 44 = .ok (.iload_n 1, 1) := by decide +kernel
theorem dX9_names_45 : decode cX9_names 45 = .ok (.invokevirtual 82, 3) := by decide +kernel
theorem dX9_names_48 : decode cX9_names 48 = .ok (.goto 5, 3) := by decide +kernel
theorem dX9_names_51 : decode cX9_names 51 = .ok (.bipush (-102), 2) := by decide +kernel
theorem dX9_names_53 : decode cX9_names 53 = .ok (.ireturn, 1) := by decide +kernel
theorem dX9_steps_0 : decode cX9_steps 0 = .ok (.iload 5, 2) := by decide +kernel
theorem dX9_steps_2 : decode cX9_steps 2 = .ok (.i2l, 1) := by decide +kernel
theorem dX9_steps_3 : decode cX9_steps 3 = .ok (.ldc2_w 90, 3) := by decide +kernel
theorem dX9_steps_6 : decode cX9_steps 6 = .ok (.ldc2_w 92, 3) := by decide +kernel
theorem dX9_steps_9 : decode cX9_steps 9 = .ok (.invokestatic 58, 3) := by decide +kernel
theorem dX9_steps_12 : decode cX9_steps 12 = .ok (.ifCond .eq 20, 3) := by decide +kernel
theorem dX9_steps_15 : decode cX9_steps 15 = .ok (.iload 5, 2) := by decide +kernel
theorem dX9_steps_17 : decode cX9_steps 17 = .ok (.ifCond .eq 15, 3) := by decide +kernel
theorem dX9_steps_20 : decode cX9_steps 20 = .ok (.aload_n 0, 1) := by decide +kernel
theorem dX9_steps_21 : decode cX9_steps 21 = .ok (.iconst 3, 1) := by decide +kernel
theorem dX9_steps_22 : decode cX9_steps 22 = .ok (.lload_n 1, 1) := by decide +kernel
theorem dX9_steps_23 : decode cX9_steps 23 = .ok (.lload_n 3, 1) := by decide +kernel
theorem dX9_steps_24 : decode cX9_steps 24 = .ok (.iload 5, 2) := by decide +kernel
theorem dX9_steps_26 : decode cX9_steps 26 = .ok (.invokevirtual 82, 3) := by decide +kernel
theorem dX9_steps_29 : decode cX9_steps 29 = .ok (.goto 5, 3) := by decide +kernel
theorem dX9_steps_32 : decode cX9_steps 32 = .ok (.bipush (-102), 2) := by decide +kernel
theorem dX9_steps_34 : decode cX9_steps 34 = .ok (.ireturn, 1) := by decide +kernel
theorem dX9_hasNumber_0 : decode cX9_hasNumber 0 = .ok (.aload_n 0, 1) := by decide +kernel
theorem dX9_hasNumber_1 : decode cX9_hasNumber 1 = .ok (.getfield 7, 3) := by decide +kernel
theorem dX9_hasNumber_4 : decode cX9_hasNumber 4 = .ok (.iload_n 1, 1) := by decide +kernel
theorem dX9_hasNumber_5 : decode cX9_hasNumber 5 = .ok (.iaload, 1) := by decide +kernel
theorem dX9_hasNumber_6 : decode cX9_hasNumber 6 = .ok (.iconst 2, 1) := by decide +kernel
theorem dX9_hasNumber_7 : decode cX9_hasNumber 7 = .ok (.if_icmp .ne 90, 3) := by decide +kernel
theorem dX9_hasNumber_10 : decode cX9_hasNumber 10 = .ok (.lload_n 2, 1) := by decide +kernel
theorem dX9_hasNumber_11 : decode cX9_hasNumber 11 = .ok (.lconst 0, 1) := by decide +kernel
theorem dX9_hasNumber_12 : decode cX9_hasNumber 12 = .ok (.aload_n 0, 1) := by decide +kernel
theorem dX9_hasNumber_13 : decode cX9_hasNumber 13 = .ok (.getfield 29, 3) := by decide +kernel
theorem dX9_hasNumber_16 : decode cX9_hasNumber 16 = .ok (.iload_n 1, 1) := by decide +kernel
theorem dX9_hasNumber_17 : decode cX9_hasNumber 17 = .ok (.iaload, 1) := by decide +kernel
theorem dX9_hasNumber_18 : decode cX9_hasNumber 18 = .ok (.iconst 1, 1) := by decide +kernel
theorem dX9_hasNumber_19 : decode cX9_hasNumber 19 = .ok (.isub, 1) := by decide +kernel
theorem dX9_hasNumber_20 : decode cX9_hasNumber 20 = .ok (.i2l, 1) := by decide +kernel
theorem dX9_hasNumber_21 : decode cX9_hasNumber 21 = .ok (.invokestatic 58, 3) := by decide +kernel
theorem dX9_hasNumber_24 : decode cX9_hasNumber 24 = .ok (.istore 4, 2) := by decide +kernel
theorem dX9_hasNumber_26 : decode cX9_hasNumber 26 = .ok (.iload 4, 2) := by decide +kernel
theorem dX9_hasNumber_28 : decode cX9_hasNumber 28 = .ok (.ifCond .eq 67, 3) := by decide +kernel
theorem dX9_hasNumber_31 : decode cX9_hasNumber 31 = .ok (.aload_n 0, 1) := by decide +kernel
theorem dX9_hasNumber_32 : decode cX9_hasNumber 32 = .ok (.getfield 26, 3) := by decide +kernel
theorem dX9_hasNumber_35 : decode cX9_hasNumber 35 = .ok (.iload_n 1, 1) := by decide +kernel
theorem dX9_hasNumber_36 : decode cX9_hasNumber 36 = .ok (.laload, 1) := by decide +kernel
theorem dX9_hasNumber_37 : decode cX9_hasNumber 37 = .ok (.aload_n 0, 1) := by decide +kernel
theorem dX9_hasNumber_38 : decode cX9_hasNumber 38 = .ok (.getfield 23, 3) := by decide +kernel
theorem dX9_hasNumber_41 : decode cX9_hasNumber 41 = .ok (.iload_n 1, 1) := by decide +kernel
theorem dX9_hasNumber_42 : decode cX9_hasNumber 42 = .ok (.laload, 1) := by decide +kernel
theorem dX9_hasNumber_43 : decode cX9_hasNumber 43 = .ok (.lcmp, 1) := by decide +kernel
theorem dX9_hasNumber_44 : decode cX9_hasNumber 44 = .ok (.ifCond .lt 25, 3) := by decide +kernel
theorem dX9_hasNumber_47 : decode cX9_hasNumber 47 = .ok (.lload_n 2, 1) := by decide +kernel
theorem dX9_hasNumber_48 : decode cX9_hasNumber 48 = .ok (.aload_n 0, 1) := by decide +kernel
theorem dX9_hasNumber_49 : decode cX9_hasNumber 49 = .ok (.getfield 23, 3) := by decide +kernel
theorem dX9_hasNumber_52 : decode cX9_hasNumber 52 = .ok (.iload_n 1, 1) := by decide +kernel
theorem dX9_hasNumber_53 : decode cX9_hasNumber 53 = .ok (.laload, 1) := by decide +kernel
theorem dX9_hasNumber_54 : decode cX9_hasNumber 54 = .ok (.aload_n 0, 1) := by decide +kernel
theorem dX9_hasNumber_55 : decode cX9_hasNumber 55 = .ok (.getfield 26, 3) := by decide +kernel
theorem dX9_hasNumber_58 : decode cX9_hasNumber 58 = .ok (.iload_n 1, 1) := by decide +kernel
theorem dX9_hasNumber_59 : decode cX9_hasNumber 59 = .ok (.laload, 1) := by decide +kernel
theorem dX9_hasNumber_60 : decode cX9_hasNumber 60 = .ok (.invokestatic 58, 3) := by decide +kernel
theorem dX9_hasNumber_63 : decode cX9_hasNumber 63 = .ok (.ifCond .eq 32, 3) := by decide +kernel
theorem dX9_hasNumber_66 : decode cX9_hasNumber 66 = .ok (.goto 25, 3) := by decide +kernel
theorem dX9_hasNumber_69 : decode cX9_hasNumber 69 = .ok (.lload_n 2, 1) := by decide +kernel
theorem dX9_hasNumber_70 : decode cX9_hasNumber 70 = .ok (.aload_n 0, 1) := by decide +kernel
theorem dX9_hasNumber_71 : decode cX9_hasNumber 71 = .ok (.getfield 23, 3) := by decide +kernel
theorem dX9_hasNumber_74 : decode cX9_hasNumber 74 = .ok (.iload_n 1, 1) := by decide +kernel
theorem dX9_hasNumber_75 : decode cX9_hasNumber 75 = .ok (.laload, 1) := by decide +kernel
theorem dX9_hasNumber_76 : decode cX9_hasNumber 76 = .ok (.lcmp, 1) := by decide +kernel
theorem dX9_hasNumber_77 : decode cX9_hasNumber 77 = .ok (.ifCond .ge 14, 3) := by decide +kernel
theorem dX9_hasNumber_80 : decode cX9_hasNumber 80 = .ok (.lload_n 2, 1) := by decide +kernel
theorem dX9_hasNumber_81 : decode cX9_hasNumber 81 = .ok (.aload_n 0, 1) := by decide +kernel
theorem dX9_hasNumber_82 : decode cX9_hasNumber 82 = .ok (.getfield 26, 3) := by decide +kernel
theorem dX9_hasNumber_85 : decode cX9_hasNumber 85 = .ok (.iload_n 1, 1) := by decide +kernel
theorem dX9_hasNumber_86 : decode cX9_hasNumber 86 = .ok (.laload, 1) := by decide +kernel
theorem dX9_hasNumber_87 : decode cX9_hasNumber 87 = .ok (.lcmp, 1) := by decide +kernel
theorem dX9_hasNumber_88 : decode cX9_hasNumber 88 = .ok (.ifCond .gt 7, 3) := by decide +kernel
theorem dX9_hasNumber_91 : decode cX9_hasNumber 91 = .ok (.iconst 1, 1) := by decide +kernel
theorem dX9_hasNumber_92 : decode cX9_hasNumber 92 = .ok (.goto 4, 3) := by decide +kernel
theorem dX9_hasNumber_95 : decode cX9_hasNumber 95 = .ok (.iconst 0, 1) := by decide +kernel
theorem dX9_hasNumber_96 : decode cX9_hasNumber 96 = .ok (.ireturn, 1) := by decide +kernel
theorem dX9_hasNumber_97 : decode cX9_hasNumber 97 = .ok (.aload_n 0, 1) := by decide +kernel
theorem dX9_hasNumber_98 : decode cX9_hasNumber 98 = .ok (.getfield 29, 3) := by decide +kernel
theorem dX9_hasNumber_101 : decode cX9_hasNumber 101 = .ok (.iload_n 1, 1) := by decide +kernel
theorem dX9_hasNumber_102 : decode cX9_hasNumber 102 = .ok (.iaload, 1) := by decide +kernel
theorem dX9_hasNumber_103 : decode cX9_hasNumber 103 = .ok (.ifCond .le 7, 3) := by decide +kernel
theorem dX9_hasNumber_106 : decode cX9_hasNumber 106 = .ok (.iconst 1, 1) := by decide +kernel
theorem dX9_hasNumber_107 : decode cX9_hasNumber 107 = .ok (.goto 4, 3) := by decide +kernel
theorem dX9_hasNumber_110 : decode cX9_hasNumber 110 = .ok (.iconst 0, 1) := by decide +kernel
theorem dX9_hasNumber_111 : decode cX9_hasNumber 111 = .ok (.istore 4, 2) := by decide +kernel
theorem dX9_hasNumber_113 : decode cX9_hasNumber 113 = .ok (.lload_n 2, 1) := by decide +kernel
theorem dX9_hasNumber_114 : decode cX9_hasNumber 114 = .ok (.iload 4, 2) := by decide +kernel
theorem dX9_hasNumber_116 : decode cX9_hasNumber 116 = .ok (.ifCond .eq 12, 3) := by decide +kernel
theorem dX9_hasNumber_119 : decode cX9_hasNumber 119 = .ok (.aload_n 0, 1) := by decide +kernel
theorem dX9_hasNumber_120 : decode cX9_hasNumber 120 = .ok (.getfield 23, 3) := by decide +kernel
theorem dX9_hasNumber_123 : decode cX9_hasNumber 123 = .ok (.iload_n 1, 1) := by decide +kernel
theorem dX9_hasNumber_124 : decode cX9_hasNumber 124 = .ok (.laload, 1) := by decide +kernel
theorem dX9_hasNumber_125 : decode cX9_hasNumber 125 = .ok (.goto 9, 3) := by decide +kernel
theorem dX9_hasNumber_128 : decode cX9_hasNumber 128 = .ok (.aload_n 0, 1) := by decide +kernel
theorem dX9_hasNumber_129 : decode cX9_hasNumber 129 = .ok (.getfield 26, 3) := by decide +kernel
theorem dX9_hasNumber_132 : decode cX9_hasNumber 132 = .ok (.iload_n 1, 1) := by decide +kernel
theorem dX9_hasNumber_133 : decode cX9_hasNumber 133 = .ok (.laload, 1) := by decide +kernel
theorem dX9_hasNumber_134 : decode cX9_hasNumber 134 = .ok (.iload 4, 2) := by decide +kernel
theorem dX9_hasNumber_136 : decode cX9_hasNumber 136 = .ok (.ifCond .eq 12, 3) := by decide +kernel
theorem dX9_hasNumber_139 : decode cX9_hasNumber 139 = .ok (.aload_n 0, 1) := by decide +kernel
theorem dX9_hasNumber_140 : decode cX9_hasNumber 140 = .ok (.getfield 26, 3) := by decide +kernel
theorem dX9_hasNumber_143 : decode cX9_hasNumber 143 = .ok (.iload_n 1, 1) := by decide +kernel
theorem dX9_hasNumber_144 : decode cX9_hasNumber 144 = .ok (.laload, 1) := by decide +kernel
theorem dX9_hasNumber_145 : decode cX9_hasNumber 145 = .ok (.goto 9, 3) := by decide +kernel
theorem dX9_hasNumber_148 : decode cX9_hasNumber 148 = .ok (.aload_n 0, 1) := by decide +kernel
theorem dX9_hasNumber_149 : decode cX9_hasNumber 149 = .ok (.getfield 23, 3) := by decide +kernel
theorem dX9_hasNumber_152 : decode cX9_hasNumber 152 = .ok (.iload_n 1, 1) := by decide +kernel
theorem dX9_hasNumber_153 : decode cX9_hasNumber 153 = .ok (.laload, 1) := by decide +kernel
theorem dX9_hasNumber_154 : decode cX9_hasNumber 154 = .ok (.invokestatic 58, 3) := by decide +kernel
theorem dX9_hasNumber_157 : decode cX9_hasNumber 157 = .ok (.ifCond .ne 5, 3) := by decide +kernel
theorem dX9_hasNumber_160 : decode cX9_hasNumber 160 = .ok (.iconst 0, 1) := by decide +kernel
theorem dX9_hasNumber_161 : decode cX9_hasNumber 161 = .ok (.ireturn, 1) := by decide +kernel
theorem dX9_hasNumber_162 : decode cX9_hasNumber 162 = .ok (.iload 4, 2) := by decide +kernel
theorem dX9_hasNumber_164 : decode cX9_hasNumber 164 = .ok (.ifCond .eq 13, 3) := by decide +kernel
theorem dX9_hasNumber_167 : decode cX9_hasNumber 167 = .ok (.aload_n 0, 1) := by decide +kernel
theorem dX9_hasNumber_168 : decode cX9_hasNumber 168 = .ok (.getfield 29, 3) := by decide +kernel
theorem dX9_hasNumber_171 : decode cX9_hasNumber 171 = .ok (.iload_n 1, 1) := by decide +kernel
theorem dX9_hasNumber_172 : decode cX9_hasNumber 172 = .ok (.iaload, 1) := by decide +kernel
theorem dX9_hasNumber_173 : decode cX9_hasNumber 173 = .ok (.i2l, 1) := by decide +kernel
theorem dX9_hasNumber_174 : decode cX9_hasNumber 174 = .ok (.goto 11, 3) := by decide +kernel
theorem dX9_hasNumber_177 : decode cX9_hasNumber 177 = .ok (.aload_n 0, 1) := by decide +kernel
theorem dX9_hasNumber_178 : decode cX9_hasNumber 178 = .ok (.getfield 29, 3) := by decide +kernel
theorem dX9_hasNumber_181 : decode cX9_hasNumber 181 = .ok (.iload_n 1, 1) := by decide +kernel
theorem dX9_hasNumber_182 : decode cX9_hasNumber 182 = .ok (.iaload, 1) := by decide +kernel
theorem dX9_hasNumber_183 : decode cX9_hasNumber 183 = .ok (.i2l, 1) := by decide +kernel
theorem dX9_hasNumber_184 : decode cX9_hasNumber 184 = .ok (.lneg, 1) := by decide +kernel
theorem dX9_hasNumber_185 : decode cX9_hasNumber 185 = .ok (.lstore 5, 2) := by decide +kernel
theorem dX9_hasNumber_187 : decode cX9_hasNumber 187 = .ok (.lload_n 2, 1) := by decide +kernel
theorem dX9_hasNumber_188 : decode cX9_hasNumber 188 = .ok (.aload_n 0, 1) := by decide +kernel
theorem dX9_hasNumber_189 : decode cX9_hasNumber 189 = .ok (.getfield 23, 3) := by decide +kernel
theorem dX9_hasNumber_192 : decode cX9_hasNumber 192 = .ok (.iload_n 1, 1) := by decide +kernel
theorem dX9_hasNumber_193 : decode cX9_hasNumber 193 = .ok (.laload, 1) := by decide +kernel
theorem dX9_hasNumber_194 : decode cX9_hasNumber 194 = .ok (.lload 5, 2) := by decide +kernel
theorem dX9_hasNumber_196 : decode cX9_hasNumber 196 = .ok (.invokestatic 94, 3) := by decide +kernel
theorem dX9_hasNumber_199 : decode cX9_hasNumber 199 = .ok (.lconst 0, 1) := by decide +kernel
theorem dX9_hasNumber_200 : decode cX9_hasNumber 200 = .ok (.lcmp, 1) := by decide +kernel
theorem dX9_hasNumber_201 : decode cX9_hasNumber 201 = .ok (.ifCond .ne 7, 3) := by decide +kernel
theorem dX9_hasNumber_204 : decode cX9_hasNumber 204 = .ok (.iconst 1, 1) := by decide +kernel
theorem dX9_hasNumber_205 : decode cX9_hasNumber 205 = .ok (.goto 4, 3) := by decide +kernel
theorem dX9_hasNumber_208 : decode cX9_hasNumber 208 = .ok (.iconst 0, 1) := by decide +kernel
theorem dX9_hasNumber_209 : decode cX9_hasNumber 209 = .ok (.ireturn, 1) := by decide +kernel
theorem dX9_leftOver_0 : decode cX9_leftOver 0 = .ok (.lload_n 0, 1) := by decide +kernel
theorem dX9_leftOver_1 : decode cX9_leftOver 1 = .ok (.lload 4, 2) := by decide +kernel
theorem dX9_leftOver_3 : decode cX9_leftOver 3 = .ok (.lrem, 1) := by decide +kernel
theorem dX9_leftOver_4 : decode cX9_leftOver 4 = .ok (.lstore 6, 2) := by decide +kernel
theorem dX9_leftOver_6 : decode cX9_leftOver 6 = .ok (.lload_n 2, 1) := by decide +kernel
theorem dX9_leftOver_7 : decode cX9_leftOver 7 = .ok (.lload 4, 2) := by decide +kernel
theorem dX9_leftOver_9 : decode cX9_leftOver 9 = .ok (.lrem, 1) := by decide +kernel
theorem dX9_leftOver_10 : decode cX9_leftOver 10 = .ok (.lstore 8, 2) := by decide +kernel
theorem dX9_leftOver_12 : decode cX9_leftOver 12 = .ok (.lload 6, 2) := by decide +kernel
theorem dX9_leftOver_14 : decode cX9_leftOver 14 = .ok (.lload 8, 2) := by decide +kernel
theorem dX9_leftOver_16 : decode cX9_leftOver 16 = .ok (.lsub, 1) := by decide +kernel
theorem dX9_leftOver_17 : decode cX9_leftOver 17 = .ok (.lload 4, 2) := by decide +kernel
theorem dX9_leftOver_19 : decode cX9_leftOver 19 = .ok (.lrem, 1) := by decide +kernel
theorem dX9_leftOver_20 : decode cX9_leftOver 20 = .ok (.lstore 10, 2) := by decide +kernel
theorem dX9_leftOver_22 : decode cX9_leftOver 22 = .ok (.lload 10, 2) := by decide +kernel
theorem dX9_leftOver_24 : decode cX9_leftOver 24 = .ok (.lconst 0, 1) := by decide +kernel
theorem dX9_leftOver_25 : decode cX9_leftOver 25 = .ok (.lcmp, 1) := by decide +kernel
theorem dX9_leftOver_26 : decode cX9_leftOver 26 = .ok (.ifCond .ge 11, 3) := by decide +kernel
theorem dX9_leftOver_29 : decode cX9_leftOver 29 = .ok (.lload 10, 2) := by decide +kernel
theorem dX9_leftOver_31 : decode cX9_leftOver 31 = .ok (.lload 4, 2) := by decide +kernel
theorem dX9_leftOver_33 : decode cX9_leftOver 33 = .ok (.ladd, 1) := by decide +kernel
theorem dX9_leftOver_34 : decode cX9_leftOver 34 = .ok (.goto 5, 3) := by decide +kernel
theorem dX9_leftOver_37 : decode cX9_leftOver 37 = .ok (.lload 10, 2) := by decide +kernel
theorem dX9_leftOver_39 : decode cX9_leftOver 39 = .ok (.lreturn, 1) := by decide +kernel
theorem dX9_placeOf_0 : decode cX9_placeOf 0 = .ok (.aload_n 0, 1) := by decide +kernel
theorem dX9_placeOf_1 : decode cX9_placeOf 1 = .ok (.getfield 7, 3) := by decide +kernel
theorem dX9_placeOf_4 : decode cX9_placeOf 4 = .ok (.iload_n 1, 1) := by decide +kernel
theorem dX9_placeOf_5 : decode cX9_placeOf 5 = .ok (.iaload, 1) := by decide +kernel
theorem dX9_placeOf_6 : decode cX9_placeOf 6 = .ok (.iconst 2, 1) := by decide +kernel
theorem dX9_placeOf_7 : decode cX9_placeOf 7 = .ok (.if_icmp .ne 42, 3) := by decide +kernel
theorem dX9_placeOf_10 : decode cX9_placeOf 10 = .ok (.lload_n 2, 1) := by decide +kernel
theorem dX9_placeOf_11 : decode cX9_placeOf 11 = .ok (.aload_n 0, 1) := by decide +kernel
theorem dX9_placeOf_12 : decode cX9_placeOf 12 = .ok (.getfield 23, 3) := by decide +kernel
theorem dX9_placeOf_15 : decode cX9_placeOf 15 = .ok (.iload_n 1, 1) := by decide +kernel
theorem dX9_placeOf_16 : decode cX9_placeOf 16 = .ok (.laload, 1) := by decide +kernel
theorem dX9_placeOf_17 : decode cX9_placeOf 17 = .ok (.lcmp, 1) := by decide +kernel
theorem dX9_placeOf_18 : decode cX9_placeOf 18 = .ok (.ifCond .lt 14, 3) := by decide +kernel
theorem dX9_placeOf_21 : decode cX9_placeOf 21 = .ok (.lload_n 2, 1) := by decide +kernel
theorem dX9_placeOf_22 : decode cX9_placeOf 22 = .ok (.aload_n 0, 1) := by decide +kernel
theorem dX9_placeOf_23 : decode cX9_placeOf 23 = .ok (.getfield 23, 3) := by decide +kernel
theorem dX9_placeOf_26 : decode cX9_placeOf 26 = .ok (.iload_n 1, 1) := by decide +kernel
theorem dX9_placeOf_27 : decode cX9_placeOf 27 = .ok (.laload, 1) := by decide +kernel
theorem dX9_placeOf_28 : decode cX9_placeOf 28 = .ok (.lsub, 1) := by decide +kernel
theorem dX9_placeOf_29 : decode cX9_placeOf 29 = .ok (.goto 19, 3) := by decide +kernel
theorem dX9_placeOf_32 : decode cX9_placeOf 32 = .ok (.lload_n 2, 1) := by decide +kernel
theorem dX9_placeOf_33 : decode cX9_placeOf 33 = .ok (.aload_n 0, 1) := by decide +kernel
theorem dX9_placeOf_34 : decode cX9_placeOf 34 = .ok (.getfield 29, 3) := by decide +kernel
theorem dX9_placeOf_37 : decode cX9_placeOf 37 = .ok (.iload_n 1, 1) := by decide +kernel
theorem dX9_placeOf_38 : decode cX9_placeOf 38 = .ok (.iaload, 1) := by decide +kernel
theorem dX9_placeOf_39 : decode cX9_placeOf 39 = .ok (.i2l, 1) := by decide +kernel
theorem dX9_placeOf_40 : decode cX9_placeOf 40 = .ok (.ladd, 1) := by decide +kernel
theorem dX9_placeOf_41 : decode cX9_placeOf 41 = .ok (.aload_n 0, 1) := by decide +kernel
theorem dX9_placeOf_42 : decode cX9_placeOf 42 = .ok (.getfield 23, 3) := by decide +kernel
theorem dX9_placeOf_45 : decode cX9_placeOf 45 = .ok (.iload_n 1, 1) := by decide +kernel
theorem dX9_placeOf_46 : decode cX9_placeOf 46 = .ok (.laload, 1) := by decide +kernel
theorem dX9_placeOf_47 : decode cX9_placeOf 47 = .ok (.lsub, 1) := by decide +kernel
theorem dX9_placeOf_48 : decode cX9_placeOf 48 = .ok (.lreturn, 1) := by decide +kernel
theorem dX9_placeOf_49 : decode cX9_placeOf 49 = .ok (.aload_n 0, 1) := by decide +kernel
theorem dX9_placeOf_50 : decode cX9_placeOf 50 = .ok (.getfield 29, 3) := by decide +kernel
theorem dX9_placeOf_53 : decode cX9_placeOf 53 = .ok (.iload_n 1, 1) := by decide +kernel
theorem dX9_placeOf_54 : decode cX9_placeOf 54 = .ok (.iaload, 1) := by decide +kernel
theorem dX9_placeOf_55 : decode cX9_placeOf 55 = .ok (.ifCond .le 7, 3) := by decide +kernel
theorem dX9_placeOf_58 : decode cX9_placeOf 58 = .ok (.iconst 1, 1) := by decide +kernel
theorem dX9_placeOf_59 : decode cX9_placeOf 59 = .ok (.goto 4, 3) := by decide +kernel
theorem dX9_placeOf_62 : decode cX9_placeOf 62 = .ok (.iconst 0, 1) := by decide +kernel
theorem dX9_placeOf_63 : decode cX9_placeOf 63 = .ok (.istore 4, 2) := by decide +kernel
theorem dX9_placeOf_65 : decode cX9_placeOf 65 = .ok (.iload 4, 2) := by decide +kernel
theorem dX9_placeOf_67 : decode cX9_placeOf 67 = .ok (.ifCond .eq 23, 3) := by decide +kernel
theorem dX9_placeOf_70 : decode cX9_placeOf 70 = .ok (.aload_n 0, 1) := by decide +kernel
theorem dX9_placeOf_71 : decode cX9_placeOf 71 = .ok (.getfield 23, 3) := by decide +kernel
theorem dX9_placeOf_74 : decode cX9_placeOf 74 = .ok (.iload_n 1, 1) := by decide +kernel
theorem dX9_placeOf_75 : decode cX9_placeOf 75 = .ok (.laload, 1) := by decide +kernel
theorem dX9_placeOf_76 : decode cX9_placeOf 76 = .ok (.lload_n 2, 1) := by decide +kernel
theorem dX9_placeOf_77 : decode cX9_placeOf 77 = .ok (.aload_n 0, 1) := by decide +kernel
theorem dX9_placeOf_78 : decode cX9_placeOf 78 = .ok (.getfield 29, 3) := by decide +kernel
theorem dX9_placeOf_81 : decode cX9_placeOf 81 = .ok (.iload_n 1, 1) := by decide +kernel
theorem dX9_placeOf_82 : decode cX9_placeOf 82 = .ok (.iaload, 1) := by decide +kernel
theorem dX9_placeOf_83 : decode cX9_placeOf 83 = .ok (.i2l, 1) := by decide +kernel
theorem dX9_placeOf_84 : decode cX9_placeOf 84 = .ok (.invokestatic 72, 3) := by decide +kernel
theorem dX9_placeOf_87 : decode cX9_placeOf 87 = .ok (.goto 21, 3) := by decide +kernel
theorem dX9_placeOf_90 : decode cX9_placeOf 90 = .ok (.lload_n 2, 1) := by decide +kernel
theorem dX9_placeOf_91 : decode cX9_placeOf 91 = .ok (.aload_n 0, 1) := by decide +kernel
theorem dX9_placeOf_92 : decode cX9_placeOf 92 = .ok (.getfield 23, 3) := by decide +kernel
theorem dX9_placeOf_95 : decode cX9_placeOf 95 = .ok (.iload_n 1, 1) := by decide +kernel
theorem dX9_placeOf_96 : decode cX9_placeOf 96 = .ok (.laload, 1) := by decide +kernel
theorem dX9_placeOf_97 : decode cX9_placeOf 97 = .ok (.aload_n 0, 1) := by decide +kernel
theorem dX9_placeOf_98 : decode cX9_placeOf 98 = .ok (.getfield 29, 3) := by decide +kernel
theorem dX9_placeOf_101 : decode cX9_placeOf 101 = .ok (.iload_n 1, 1) := by decide +kernel
theorem dX9_placeOf_102 : decode cX9_placeOf 102 = .ok (.iaload, 1) := by decide +kernel
theorem dX9_placeOf_103 : decode cX9_placeOf 103 = .ok (.i2l, 1) := by decide +kernel
theorem dX9_placeOf_104 : decode cX9_placeOf 104 = .ok (.lneg, 1) := by decide +kernel
theorem dX9_placeOf_105 : decode cX9_placeOf 105 = .ok (.invokestatic 72, 3) := by decide +kernel
theorem dX9_placeOf_108 : decode cX9_placeOf 108 = .ok (.lreturn, 1) := by decide +kernel
theorem dX9_numberAt_0 : decode cX9_numberAt 0 = .ok (.aload_n 0, 1) := by decide +kernel
theorem dX9_numberAt_1 : decode cX9_numberAt 1 = .ok (.getfield 7, 3) := by decide +kernel
theorem dX9_numberAt_4 : decode cX9_numberAt 4 = .ok (.iload_n 1, 1) := by decide +kernel
theorem dX9_numberAt_5 : decode cX9_numberAt 5 = .ok (.iaload, 1) := by decide +kernel
theorem dX9_numberAt_6 : decode cX9_numberAt 6 = .ok (.iconst 2, 1) := by decide +kernel
theorem dX9_numberAt_7 : decode cX9_numberAt 7 = .ok (.if_icmp .ne 20, 3) := by decide +kernel
theorem dX9_numberAt_10 : decode cX9_numberAt 10 = .ok (.aload_n 0, 1) := by decide +kernel
theorem dX9_numberAt_11 : decode cX9_numberAt 11 = .ok (.getfield 23, 3) := by decide +kernel
theorem dX9_numberAt_14 : decode cX9_numberAt 14 = .ok (.iload_n 1, 1) := by decide +kernel
theorem dX9_numberAt_15 : decode cX9_numberAt 15 = .ok (.laload, 1) := by decide +kernel
theorem dX9_numberAt_16 : decode cX9_numberAt 16 = .ok (.lload_n 2, 1) := by decide +kernel
theorem dX9_numberAt_17 : decode cX9_numberAt 17 = .ok (.ladd, 1) := by decide +kernel
theorem dX9_numberAt_18 : decode cX9_numberAt 18 = .ok (.aload_n 0, 1) := by decide +kernel
theorem dX9_numberAt_19 : decode cX9_numberAt 19 = .ok (.getfield 29, 3) := by decide +kernel
theorem dX9_numberAt_22 : decode cX9_numberAt 22 = .ok (.iload_n 1, 1) := by decide +kernel
theorem dX9_numberAt_23 : decode cX9_numberAt 23 = .ok (.iaload, 1) := by decide +kernel
theorem dX9_numberAt_24 : decode cX9_numberAt 24 = .ok (.i2l, 1) := by decide +kernel
theorem dX9_numberAt_25 : decode cX9_numberAt 25 = .ok (.lrem, 1) := by decide +kernel
theorem dX9_numberAt_26 : decode cX9_numberAt 26 = .ok (.lreturn, 1) := by decide +kernel
theorem dX9_numberAt_27 : decode cX9_numberAt 27 = .ok (.aload_n 0, 1) := by decide +kernel
theorem dX9_numberAt_28 : decode cX9_numberAt 28 = .ok (.getfield 23, 3) := by decide +kernel
theorem dX9_numberAt_31 : decode cX9_numberAt 31 = .ok (.iload_n 1, 1) := by decide +kernel
theorem dX9_numberAt_32 : decode cX9_numberAt 32 = .ok (.laload, 1) := by decide +kernel
theorem dX9_numberAt_33 : decode cX9_numberAt 33 = .ok (.lload_n 2, 1) := by decide +kernel
theorem dX9_numberAt_34 : decode cX9_numberAt 34 = .ok (.aload_n 0, 1) := by decide +kernel
theorem dX9_numberAt_35 : decode cX9_numberAt 35 = .ok (.getfield 29, 3) := by decide +kernel
theorem dX9_numberAt_38 : decode cX9_numberAt 38 = .ok (.iload_n 1, 1) := by decide +kernel
theorem dX9_numberAt_39 : decode cX9_numberAt 39 = .ok (.iaload, 1) := by decide +kernel
theorem dX9_numberAt_40 : decode cX9_numberAt 40 = .ok (.i2l, 1) := by decide +kernel
theorem dX9_numberAt_41 : decode cX9_numberAt 41 = .ok (.lmul, 1) := by decide +kernel
theorem dX9_numberAt_42 : decode cX9_numberAt 42 = .ok (.ladd, 1) := by decide +kernel
theorem dX9_numberAt_43 : decode cX9_numberAt 43 = .ok (.lreturn, 1) := by decide +kernel
theorem dX9_take_0 : decode cX9_take 0 = .ok (.iconst 0, 1) := by decide +kernel
theorem dX9_take_1 : decode cX9_take 1 = .ok (.istore 5, 2) := by decide +kernel
theorem dX9_take_3 : decode cX9_take 3 = .ok (.iload 5, 2) := by decide +kernel
theorem dX9_take_5 : decode cX9_take 5 = .ok (.aload_n 0, 1) := by decide +kernel
theorem dX9_take_6 : decode cX9_take 6 = .ok (.getfield 16, 3) := by decide +kernel
theorem dX9_take_9 : decode cX9_take 9 = .ok (.iload_n 3, 1) := by decide +kernel
theorem dX9_take_10 : decode cX9_take 10 = .ok (.iaload, 1) := by decide +kernel
theorem dX9_take_11 : decode cX9_take 11 = .ok (.if_icmp .ge 99, 3) := by decide +kernel
theorem dX9_take_14 : decode cX9_take 14 = .ok (.aload_n 0, 1) := by decide +kernel
theorem dX9_take_15 : decode cX9_take 15 = .ok (.getfield 32, 3) := by decide +kernel
theorem dX9_take_18 : decode cX9_take 18 = .ok (.bipush 8, 2) := by decide +kernel
theorem dX9_take_20 : decode cX9_take 20 = .ok (.iload_n 1, 1) := by decide +kernel
theorem dX9_take_21 : decode cX9_take 21 = .ok (.imul, 1) := by decide +kernel
theorem dX9_take_22 : decode cX9_take 22 = .ok (.iload_n 2, 1) := by decide +kernel
theorem dX9_take_23 : decode cX9_take 23 = .ok (.iadd, 1) := by decide +kernel
theorem dX9_take_24 : decode cX9_take 24 = .ok (.iload 5, 2) := by decide +kernel
theorem dX9_take_26 : decode cX9_take 26 = .ok (.iadd, 1) := by decide +kernel
theorem dX9_take_27 : decode cX9_take 27 = .ok (.aload_n 0, 1) := by decide +kernel
theorem dX9_take_28 : decode cX9_take 28 = .ok (.getfield 32, 3) := by decide +kernel
theorem dX9_take_31 : decode cX9_take 31 = .ok (.bipush 8, 2) := by decide +kernel
theorem dX9_take_33 : decode cX9_take 33 = .ok (.iload_n 3, 1) := by decide +kernel
theorem dX9_take_34 : decode cX9_take 34 = .ok (.imul, 1) := by decide +kernel
theorem dX9_take_35 : decode cX9_take 35 = .ok (.iload 5, 2) := by decide +kernel
theorem dX9_take_37 : decode cX9_take 37 = .ok (.iadd, 1) := by decide +kernel
theorem dX9_take_38 : decode cX9_take 38 = .ok (.iaload, 1) := by decide +kernel
theorem dX9_take_39 : decode cX9_take 39 = .ok (.iastore, 1) := by decide +kernel
theorem dX9_take_40 : decode cX9_take 40 = .ok (.aload_n 0, 1) := by decide +kernel
theorem dX9_take_41 : decode cX9_take 41 = .ok (.getfield 35, 3) := by decide +kernel
theorem dX9_take_44 : decode cX9_take 44 = .ok (.bipush 8, 2) := by decide +kernel
theorem dX9_take_46 : decode cX9_take 46 = .ok (.iload_n 1, 1) := by decide +kernel
theorem dX9_take_47 : decode cX9_take 47 = .ok (.imul, 1) := by decide +kernel
theorem dX9_take_48 : decode cX9_take 48 = .ok (.iload_n 2, 1) := by decide +kernel
theorem dX9_take_49 : decode cX9_take 49 = .ok (.iadd, 1) := by decide +kernel
theorem dX9_take_50 : decode cX9_take 50 = .ok (.iload 5, 2) := by decide +kernel
theorem dX9_take_52 : decode cX9_take 52 = .ok (.iadd, 1) := by decide +kernel
theorem dX9_take_53 : decode cX9_take 53 = .ok (.aload_n 0, 1) := by decide +kernel
theorem dX9_take_54 : decode cX9_take 54 = .ok (.getfield 35, 3) := by decide +kernel
theorem dX9_take_57 : decode cX9_take 57 = .ok (.bipush 8, 2) := by decide +kernel
theorem dX9_take_59 : decode cX9_take 59 = .ok (.iload_n 3, 1) := by decide +kernel
theorem dX9_take_60 : decode cX9_take 60 = .ok (.imul, 1) := by decide +kernel
theorem dX9_take_61 : decode cX9_take 61 = .ok (.iload 5, 2) := by decide +kernel
theorem dX9_take_63 : decode cX9_take 63 = .ok (.iadd, 1) := by decide +kernel
theorem dX9_take_64 : decode cX9_take 64 = .ok (.baload, 1) := by decide +kernel
theorem dX9_take_65 : decode cX9_take 65 = .ok (.iload 4, 2) := by decide +kernel
theorem dX9_take_67 : decode cX9_take 67 = .ok (.if_icmp .eq 7, 3) := by decide +kernel
theorem dX9_take_70 : decode cX9_take 70 = .ok (.iconst 1, 1) := by decide +kernel
theorem dX9_take_71 : decode cX9_take 71 = .ok (.goto 4, 3) := by decide +kernel
theorem dX9_take_74 : decode cX9_take 74 = .ok (.iconst 0, 1) := by decide +kernel
theorem dX9_take_75 : decode cX9_take 75 = .ok (.bastore, 1) := by decide +kernel
theorem dX9_take_76 : decode cX9_take 76 = .ok (.aload_n 0, 1) := by decide +kernel
theorem dX9_take_77 : decode cX9_take 77 = .ok (.getfield 39, 3) := by decide +kernel
theorem dX9_take_80 : decode cX9_take 80 = .ok (.bipush 8, 2) := by decide +kernel
theorem dX9_take_82 : decode cX9_take 82 = .ok (.iload_n 1, 1) := by decide +kernel
theorem dX9_take_83 : decode cX9_take 83 = .ok (.imul, 1) := by decide +kernel
theorem dX9_take_84 : decode cX9_take 84 = .ok (.iload_n 2, 1) := by decide +kernel
theorem dX9_take_85 : decode cX9_take 85 = .ok (.iadd, 1) := by decide +kernel
theorem dX9_take_86 : decode cX9_take 86 = .ok (.iload 5, 2) := by decide +kernel
theorem dX9_take_88 : decode cX9_take 88 = .ok (.iadd, 1) := by decide +kernel
theorem dX9_take_89 : decode cX9_take 89 = .ok (.aload_n 0, 1) := by decide +kernel
theorem dX9_take_90 : decode cX9_take 90 = .ok (.getfield 39, 3) := by decide +kernel
theorem dX9_take_93 : decode cX9_take 93 = .ok (.bipush 8, 2) := by decide +kernel
theorem dX9_take_95 : decode cX9_take 95 = .ok (.iload_n 3, 1) := by decide +kernel
theorem dX9_take_96 : decode cX9_take 96 = .ok (.imul, 1) := by decide +kernel
theorem dX9_take_97 : decode cX9_take 97 = .ok (.iload 5, 2) := by decide +kernel
theorem dX9_take_99 : decode cX9_take 99 = .ok (.iadd, 1) := by decide +kernel
theorem dX9_take_100 : decode cX9_take 100 = .ok (.iaload, 1) := by decide +kernel
theorem dX9_take_101 : decode cX9_take 101 = .ok (.iconst 1, 1) := by decide +kernel
theorem dX9_take_102 : decode cX9_take 102 = .ok (.iadd, 1) := by decide +kernel
theorem dX9_take_103 : decode cX9_take 103 = .ok (.iastore, 1) := by decide +kernel
theorem dX9_take_104 : decode cX9_take 104 = .ok (.iinc 5 1, 3) := by decide +kernel
theorem dX9_take_107 : decode cX9_take 107 = .ok (.goto (-104), 3) := by decide +kernel
theorem dX9_take_110 : decode cX9_take 110 = .ok (.return_, 1) := by decide +kernel
theorem dX9_times_0 : decode cX9_times 0 = .ok (.lload_n 0, 1) := by decide +kernel
theorem dX9_times_1 : decode cX9_times 1 = .ok (.lconst 0, 1) := by decide +kernel
theorem dX9_times_2 : decode cX9_times 2 = .ok (.lcmp, 1) := by decide +kernel
theorem dX9_times_3 : decode cX9_times 3 = .ok (.ifCond .eq 9, 3) := by decide +kernel
theorem dX9_times_6 : decode cX9_times 6 = .ok (.lload_n 2, 1) := by decide +kernel
theorem dX9_times_7 : decode cX9_times 7 = .ok (.lconst 0, 1) := by decide +kernel
theorem dX9_times_8 : decode cX9_times 8 = .ok (.lcmp, 1) := by decide +kernel
theorem dX9_times_9 : decode cX9_times 9 = .ok (.ifCond .ne 5, 3) := by decide +kernel
theorem dX9_times_12 : decode cX9_times 12 = .ok (.lconst 0, 1) := by decide +kernel
theorem dX9_times_13 : decode cX9_times 13 = .ok (.lreturn, 1) := by decide +kernel
theorem dX9_times_14 : decode cX9_times 14 = .ok (.lload_n 0, 1) := by decide +kernel
theorem dX9_times_15 : decode cX9_times 15 = .ok (.ldc2_w 68, 3) := by decide +kernel
theorem dX9_times_18 : decode cX9_times 18 = .ok (.lcmp, 1) := by decide +kernel
theorem dX9_times_19 : decode cX9_times 19 = .ok (.ifCond .eq 21, 3) := by decide +kernel
theorem dX9_times_22 : decode cX9_times 22 = .ok (.lload_n 2, 1) := by decide +kernel
theorem dX9_times_23 : decode cX9_times 23 = .ok (.ldc2_w 68, 3) := by decide +kernel
theorem dX9_times_26 : decode cX9_times 26 = .ok (.lcmp, 1) := by decide +kernel
theorem dX9_times_27 : decode cX9_times 27 = .ok (.ifCond .eq 13, 3) := by decide +kernel
theorem dX9_times_30 : decode cX9_times 30 = .ok (.lload_n 0, 1) := by decide +kernel
theorem dX9_times_31 : decode cX9_times 31 = .ok (.ldc2_w 76, 3) := by decide +kernel
theorem dX9_times_34 : decode cX9_times 34 = .ok (.lload_n 2, 1) := by decide +kernel
theorem dX9_times_35 : decode cX9_times 35 = .ok (.ldiv, 1) := by decide +kernel
theorem dX9_times_36 : decode cX9_times 36 = .ok (.lcmp, 1) := by decide +kernel
theorem dX9_times_37 : decode cX9_times 37 = .ok (.ifCond .le 9, 3) := by decide +kernel
theorem dX9_times_40 : decode cX9_times 40 = .ok (.ldc2_w 68, 3) := by decide +kernel
theorem dX9_times_43 : decode cX9_times 43 = .ok (.goto 6, 3) := by decide +kernel
theorem dX9_times_46 : decode cX9_times 46 = .ok (.lload_n 0, 1) := by decide +kernel
theorem dX9_times_47 : decode cX9_times 47 = .ok (.lload_n 2, 1) := by decide +kernel
theorem dX9_times_48 : decode cX9_times 48 = .ok (.lmul, 1) := by decide +kernel
theorem dX9_times_49 : decode cX9_times 49 = .ok (.lreturn, 1) := by decide +kernel
theorem dX9_sizeOf_0 : decode cX9_sizeOf 0 = .ok (.iconst 0, 1) := by decide +kernel
theorem dX9_sizeOf_1 : decode cX9_sizeOf 1 = .ok (.istore_n 2, 1) := by decide +kernel
theorem dX9_sizeOf_2 : decode cX9_sizeOf 2 = .ok (.lconst 1, 1) := by decide +kernel
theorem dX9_sizeOf_3 : decode cX9_sizeOf 3 = .ok (.lstore_n 3, 1) := by decide +kernel
theorem dX9_sizeOf_4 : decode cX9_sizeOf 4 = .ok (.iconst 0, 1) := by decide +kernel
theorem dX9_sizeOf_5 : decode cX9_sizeOf 5 = .ok (.istore 5, 2) := by decide +kernel
theorem dX9_sizeOf_7 : decode cX9_sizeOf 7 = .ok (.iload 5, 2) := by decide +kernel
theorem dX9_sizeOf_9 : decode cX9_sizeOf 9 = .ok (.aload_n 0, 1) := by decide +kernel
theorem dX9_sizeOf_10 : decode cX9_sizeOf 10 = .ok (.getfield 16, 3) := by decide +kernel
theorem dX9_sizeOf_13 : decode cX9_sizeOf 13 = .ok (.iload_n 1, 1) := by decide +kernel
theorem dX9_sizeOf_14 : decode cX9_sizeOf 14 = .ok (.iaload, 1) := by decide +kernel
theorem dX9_sizeOf_15 : decode cX9_sizeOf 15 = .ok (.if_icmp .ge 52, 3) := by decide +kernel
theorem dX9_sizeOf_18 : decode cX9_sizeOf 18 = .ok (.aload_n 0, 1) := by decide +kernel
theorem dX9_sizeOf_19 : decode cX9_sizeOf 19 = .ok (.getfield 19, 3) := by decide +kernel
theorem dX9_sizeOf_22 : decode cX9_sizeOf 22 = .ok (.aload_n 0, 1) := by decide +kernel
theorem dX9_sizeOf_23 : decode cX9_sizeOf 23 = .ok (.getfield 32, 3) := by decide +kernel
theorem dX9_sizeOf_26 : decode cX9_sizeOf 26 = .ok (.bipush 8, 2) := by decide +kernel
theorem dX9_sizeOf_28 : decode cX9_sizeOf 28 = .ok (.iload_n 1, 1) := by decide +kernel
theorem dX9_sizeOf_29 : decode cX9_sizeOf 29 = .ok (.imul, 1) := by decide +kernel
theorem dX9_sizeOf_30 : decode cX9_sizeOf 30 = .ok (.iload 5, 2) := by decide +kernel
theorem dX9_sizeOf_32 : decode cX9_sizeOf 32 = .ok (.iadd, 1) := by decide +kernel
theorem dX9_sizeOf_33 : decode cX9_sizeOf 33 = .ok (.iaload, 1) := by decide +kernel
theorem dX9_sizeOf_34 : decode cX9_sizeOf 34 = .ok (.laload, 1) := by decide +kernel
theorem dX9_sizeOf_35 : decode cX9_sizeOf 35 = .ok (.lstore 6, 2) := by decide +kernel
theorem dX9_sizeOf_37 : decode cX9_sizeOf 37 = .ok (.iload_n 2, 1) := by decide +kernel
theorem dX9_sizeOf_38 : decode cX9_sizeOf 38 = .ok (.ifCond .ne 10, 3) := by decide +kernel
theorem dX9_sizeOf_41 : decode cX9_sizeOf 41 = .ok (.lload 6, 2) := by decide +kernel
theorem dX9_sizeOf_43 : decode cX9_sizeOf 43 = .ok (.lconst 0, 1) := by decide +kernel
theorem dX9_sizeOf_44 : decode cX9_sizeOf 44 = .ok (.lcmp, 1) := by decide +kernel
theorem dX9_sizeOf_45 : decode cX9_sizeOf 45 = .ok (.ifCond .ne 7, 3) := by decide +kernel
theorem dX9_sizeOf_48 : decode cX9_sizeOf 48 = .ok (.iconst 1, 1) := by decide +kernel
theorem dX9_sizeOf_49 : decode cX9_sizeOf 49 = .ok (.goto 4, 3) := by decide +kernel
theorem dX9_sizeOf_52 : decode cX9_sizeOf 52 = .ok (.iconst 0, 1) := by decide +kernel
theorem dX9_sizeOf_53 : decode cX9_sizeOf 53 = .ok (.istore_n 2, 1) := by decide +kernel
theorem dX9_sizeOf_54 : decode cX9_sizeOf 54 = .ok (.lload_n 3, 1) := by decide +kernel
theorem dX9_sizeOf_55 : decode cX9_sizeOf 55 = .ok (.lload 6, 2) := by decide +kernel
theorem dX9_sizeOf_57 : decode cX9_sizeOf 57 = .ok (.invokestatic 97, 3) := by decide +kernel
theorem dX9_sizeOf_60 : decode cX9_sizeOf 60 = .ok (.lstore_n 3, 1) := by decide +kernel
theorem dX9_sizeOf_61 : decode cX9_sizeOf 61 = .ok (.iinc 5 1, 3) := by decide +kernel
theorem dX9_sizeOf_64 : decode cX9_sizeOf 64 = .ok (.goto (-57), 3) := by decide +kernel
theorem dX9_sizeOf_67 : decode cX9_sizeOf 67 = .ok (.iload_n 2, 1) := by decide +kernel
theorem dX9_sizeOf_68 : decode cX9_sizeOf 68 = .ok (.ifCond .eq 7, 3) := by decide +kernel
theorem dX9_sizeOf_71 : decode cX9_sizeOf 71 = .ok (.lconst 0, 1) := by decide +kernel
theorem dX9_sizeOf_72 : decode cX9_sizeOf 72 = .ok (.goto 4, 3) := by decide +kernel
theorem dX9_sizeOf_75 : decode cX9_sizeOf 75 = .ok (.lload_n 3, 1) := by decide +kernel
theorem dX9_sizeOf_76 : decode cX9_sizeOf 76 = .ok (.lreturn, 1) := by decide +kernel
theorem dX9_begin_0 : decode cX9_begin 0 = .ok (.aload_n 0, 1) := by decide +kernel
theorem dX9_begin_1 : decode cX9_begin 1 = .ok (.getfield 54, 3) := by decide +kernel
theorem dX9_begin_4 : decode cX9_begin 4 = .ok (.istore 4, 2) := by decide +kernel
theorem dX9_begin_6 : decode cX9_begin 6 = .ok (.aload_n 0, 1) := by decide +kernel
theorem dX9_begin_7 : decode cX9_begin 7 = .ok (.getfield 7, 3) := by decide +kernel
theorem dX9_begin_10 : decode cX9_begin 10 = .ok (.iload 4, 2) := by decide +kernel
theorem dX9_begin_12 : decode cX9_begin 12 = .ok (.iload_n 1, 1) := by decide +kernel
theorem dX9_begin_13 : decode cX9_begin 13 = .ok (.iastore, 1) := by decide +kernel
theorem dX9_begin_14 : decode cX9_begin 14 = .ok (.aload_n 0, 1) := by decide +kernel
theorem dX9_begin_15 : decode cX9_begin 15 = .ok (.getfield 13, 3) := by decide +kernel
theorem dX9_begin_18 : decode cX9_begin 18 = .ok (.iload 4, 2) := by decide +kernel
theorem dX9_begin_20 : decode cX9_begin 20 = .ok (.iload_n 2, 1) := by decide +kernel
theorem dX9_begin_21 : decode cX9_begin 21 = .ok (.iastore, 1) := by decide +kernel
theorem dX9_begin_22 : decode cX9_begin 22 = .ok (.aload_n 0, 1) := by decide +kernel
theorem dX9_begin_23 : decode cX9_begin 23 = .ok (.getfield 16, 3) := by decide +kernel
theorem dX9_begin_26 : decode cX9_begin 26 = .ok (.iload 4, 2) := by decide +kernel
theorem dX9_begin_28 : decode cX9_begin 28 = .ok (.iload_n 3, 1) := by decide +kernel
theorem dX9_begin_29 : decode cX9_begin 29 = .ok (.iastore, 1) := by decide +kernel
theorem dX9_begin_30 : decode cX9_begin 30 = .ok (.aload_n 0, 1) := by decide +kernel
theorem dX9_begin_31 : decode cX9_begin 31 = .ok (.dup, 1) := by decide +kernel
theorem dX9_begin_32 : decode cX9_begin 32 = .ok (.getfield 54, 3) := by decide +kernel
theorem dX9_begin_35 : decode cX9_begin 35 = .ok (.iconst 1, 1) := by decide +kernel
theorem dX9_begin_36 : decode cX9_begin 36 = .ok (.iadd, 1) := by decide +kernel
theorem dX9_begin_37 : decode cX9_begin 37 = .ok (.putfield 54, 3) := by decide +kernel
theorem dX9_begin_40 : decode cX9_begin 40 = .ok (.iload 4, 2) := by decide +kernel
theorem dX9_begin_42 : decode cX9_begin 42 = .ok (.ireturn, 1) := by decide +kernel
theorem dX9_back_0 : decode cX9_back 0 = .ok (.aload_n 0, 1) := by decide +kernel
theorem dX9_back_1 : decode cX9_back 1 = .ok (.iload_n 1, 1) := by decide +kernel
theorem dX9_back_2 : decode cX9_back 2 = .ok (.invokevirtual 101, 3) := by decide +kernel
theorem dX9_back_5 : decode cX9_back 5 = .ok (.ifCond .eq 6, 3) := by decide +kernel
theorem dX9_back_8 : decode cX9_back 8 = .ok (.bipush (-101), 2) := by decide +kernel
theorem dX9_back_10 : decode cX9_back 10 = .ok (.ireturn, 1) := by decide +kernel
theorem dX9_back_11 : decode cX9_back 11 = .ok (.aload_n 0, 1) := by decide +kernel
theorem dX9_back_12 : decode cX9_back 12 = .ok (.getfield 19, 3) := by decide +kernel
theorem dX9_back_15 : decode cX9_back 15 = .ok (.iload_n 1, 1) := by decide +kernel
theorem dX9_back_16 : decode cX9_back 16 = .ok (.laload, 1) := by decide +kernel
theorem dX9_back_17 : decode cX9_back 17 = .ok (.ldc2_w 68, 3) := by decide +kernel
theorem dX9_back_20 : decode cX9_back 20 = .ok (.lcmp, 1) := by decide +kernel
theorem dX9_back_21 : decode cX9_back 21 = .ok (.ifCond .ne 6, 3) := by decide +kernel
theorem dX9_back_24 : decode cX9_back 24 = .ok (.bipush (-103), 2) := by decide +kernel
theorem dX9_back_26 : decode cX9_back 26 = .ok (.ireturn, 1) := by decide +kernel
theorem dX9_back_27 : decode cX9_back 27 = .ok (.aload_n 0, 1) := by decide +kernel
theorem dX9_back_28 : decode cX9_back 28 = .ok (.getfield 54, 3) := by decide +kernel
theorem dX9_back_31 : decode cX9_back 31 = .ok (.bipush 40, 2) := by decide +kernel
theorem dX9_back_33 : decode cX9_back 33 = .ok (.if_icmp .ne 6, 3) := by decide +kernel
theorem dX9_back_36 : decode cX9_back 36 = .ok (.bipush (-104), 2) := by decide +kernel
theorem dX9_back_38 : decode cX9_back 38 = .ok (.ireturn, 1) := by decide +kernel
theorem dX9_back_39 : decode cX9_back 39 = .ok (.aload_n 0, 1) := by decide +kernel
theorem dX9_back_40 : decode cX9_back 40 = .ok (.iconst 4, 1) := by decide +kernel
theorem dX9_back_41 : decode cX9_back 41 = .ok (.iconst 1, 1) := by decide +kernel
theorem dX9_back_42 : decode cX9_back 42 = .ok (.aload_n 0, 1) := by decide +kernel
theorem dX9_back_43 : decode cX9_back 43 = .ok (.getfield 16, 3) := by decide +kernel
theorem dX9_back_46 : decode cX9_back 46 = .ok (.iload_n 1, 1) := by decide +kernel
theorem dX9_back_47 : decode cX9_back 47 = .ok (.iaload, 1) := by decide +kernel
theorem dX9_back_48 : decode cX9_back 48 = .ok (.invokevirtual 105, 3) := by decide +kernel
theorem dX9_back_51 : decode cX9_back 51 = .ok (.istore_n 2, 1) := by decide +kernel
theorem dX9_back_52 : decode cX9_back 52 = .ok (.aload_n 0, 1) := by decide +kernel
theorem dX9_back_53 : decode cX9_back 53 = .ok (.iload_n 2, 1) := by decide +kernel
theorem dX9_back_54 : decode cX9_back 54 = .ok (.iconst 0, 1) := by decide +kernel
theorem dX9_back_55 : decode cX9_back 55 = .ok (.iload_n 1, 1) := by decide +kernel
theorem dX9_back_56 : decode cX9_back 56 = .ok (.iconst 1, 1) := by decide +kernel
theorem dX9_back_57 : decode cX9_back 57 = .ok (.invokevirtual 109, 3) := by decide +kernel
theorem dX9_back_60 : decode cX9_back 60 = .ok (.aload_n 0, 1) := by decide +kernel
theorem dX9_back_61 : decode cX9_back 61 = .ok (.getfield 19, 3) := by decide +kernel
theorem dX9_back_64 : decode cX9_back 64 = .ok (.iload_n 2, 1) := by decide +kernel
theorem dX9_back_65 : decode cX9_back 65 = .ok (.aload_n 0, 1) := by decide +kernel
theorem dX9_back_66 : decode cX9_back 66 = .ok (.iload_n 2, 1) := by decide +kernel
theorem dX9_back_67 : decode cX9_back 67 = .ok (.invokevirtual 113, 3) := by decide +kernel
theorem dX9_back_70 : decode cX9_back 70 = .ok (.lastore, 1) := by decide +kernel
theorem dX9_back_71 : decode cX9_back 71 = .ok (.iload_n 2, 1) := by decide +kernel
theorem dX9_back_72 : decode cX9_back 72 = .ok (.ireturn, 1) := by decide +kernel
theorem dX9_pair_0 : decode cX9_pair 0 = .ok (.aload_n 0, 1) := by decide +kernel
theorem dX9_pair_1 : decode cX9_pair 1 = .ok (.iload_n 1, 1) := by decide +kernel
theorem dX9_pair_2 : decode cX9_pair 2 = .ok (.invokevirtual 101, 3) := by decide +kernel
theorem dX9_pair_5 : decode cX9_pair 5 = .ok (.ifCond .ne 11, 3) := by decide +kernel
theorem dX9_pair_8 : decode cX9_pair 8 = .ok (.aload_n 0, 1) := by decide +kernel
theorem dX9_pair_9 : decode cX9_pair 9 = .ok (.iload_n 2, 1) := by decide +kernel
theorem dX9_pair_10 : decode cX9_pair 10 = .ok (.invokevirtual 101, 3) := by decide +kernel
theorem dX9_pair_13 : decode cX9_pair 13 = .ok (.ifCond .eq 6, 3) := by decide +kernel
theorem dX9_pair_16 : decode cX9_pair 16 = .ok (.bipush (-101), 2) := by decide +kernel
theorem dX9_pair_18 : decode cX9_pair 18 = .ok (.ireturn, 1) := by decide +kernel
theorem dX9_pair_19 : decode cX9_pair 19 = .ok (.aload_n 0, 1) := by decide +kernel
theorem dX9_pair_20 : decode cX9_pair 20 = .ok (.getfield 16, 3) := by decide +kernel
theorem dX9_pair_23 : decode cX9_pair 23 = .ok (.iload_n 1, 1) := by decide +kernel
theorem dX9_pair_24 : decode cX9_pair 24 = .ok (.iaload, 1) := by decide +kernel
theorem dX9_pair_25 : decode cX9_pair 25 = .ok (.aload_n 0, 1) := by decide +kernel
theorem dX9_pair_26 : decode cX9_pair 26 = .ok (.getfield 16, 3) := by decide +kernel
theorem dX9_pair_29 : decode cX9_pair 29 = .ok (.iload_n 2, 1) := by decide +kernel
theorem dX9_pair_30 : decode cX9_pair 30 = .ok (.iaload, 1) := by decide +kernel
theorem dX9_pair_31 : decode cX9_pair 31 = .ok (.iadd, 1) := by decide +kernel
theorem dX9_pair_32 : decode cX9_pair 32 = .ok (.bipush 8, 2) := by decide +kernel
theorem dX9_pair_34 : decode cX9_pair 34 = .ok (.if_icmp .le 6, 3) := by decide +kernel
theorem dX9_pair_37 : decode cX9_pair 37 = .ok (.bipush (-103), 2) := by decide +kernel
theorem dX9_pair_39 : decode cX9_pair 39 = .ok (.ireturn, 1) := by decide +kernel
theorem dX9_pair_40 : decode cX9_pair 40 = .ok (.aload_n 0, 1) := by decide +kernel
theorem dX9_pair_41 : decode cX9_pair 41 = .ok (.getfield 54, 3) := by decide +kernel
theorem dX9_pair_44 : decode cX9_pair 44 = .ok (.bipush 40, 2) := by decide +kernel
theorem dX9_pair_46 : decode cX9_pair 46 = .ok (.if_icmp .ne 6, 3) := by decide +kernel
theorem dX9_pair_49 : decode cX9_pair 49 = .ok (.bipush (-104), 2) := by decide +kernel
theorem dX9_pair_51 : decode cX9_pair 51 = .ok (.ireturn, 1) := by decide +kernel
theorem dX9_pair_52 : decode cX9_pair 52 = .ok (.aload_n 0, 1) := by decide +kernel
theorem dX9_pair_53 : decode cX9_pair 53 = .ok (.iconst 5, 1) := by decide +kernel
theorem dX9_pair_54 : decode cX9_pair 54 = .ok (.iconst 2, 1) := by decide +kernel
theorem dX9_pair_55 : decode cX9_pair 55 = .ok (.aload_n 0, 1) := by decide +kernel
theorem dX9_pair_56 : decode cX9_pair 56 = .ok (.getfield 16, 3) := by decide +kernel
theorem dX9_pair_59 : decode cX9_pair 59 = .ok (.iload_n 1, 1) := by decide +kernel
theorem dX9_pair_60 : decode cX9_pair 60 = .ok (.iaload, 1) := by decide +kernel
theorem dX9_pair_61 : decode cX9_pair 61 = .ok (.aload_n 0, 1) := by decide +kernel
theorem dX9_pair_62 : decode cX9_pair 62 = .ok (.getfield 16, 3) := by decide +kernel
theorem dX9_pair_65 : decode cX9_pair 65 = .ok (.iload_n 2, 1) := by decide +kernel
theorem dX9_pair_66 : decode cX9_pair 66 = .ok (.iaload, 1) := by decide +kernel
theorem dX9_pair_67 : decode cX9_pair 67 = .ok (.iadd, 1) := by decide +kernel
theorem dX9_pair_68 : decode cX9_pair 68 = .ok (.invokevirtual 105, 3) := by decide +kernel
theorem dX9_pair_71 : decode cX9_pair 71 = .ok (.istore_n 3, 1) := by decide +kernel
theorem dX9_pair_72 : decode cX9_pair 72 = .ok (.aload_n 0, 1) := by decide +kernel
theorem dX9_pair_73 : decode cX9_pair 73 = .ok (.iload_n 3, 1) := by decide +kernel
theorem dX9_pair_74 : decode cX9_pair 74 = .ok (.iconst 0, 1) := by decide +kernel
theorem dX9_pair_75 : decode cX9_pair 75 = .ok (.iload_n 1, 1) := by decide +kernel
theorem dX9_pair_76 : decode cX9_pair 76 = .ok (.iconst 0, 1) := by decide +kernel
theorem dX9_pair_77 : decode cX9_pair 77 = .ok (.invokevirtual 109, 3) := by decide +kernel
theorem dX9_pair_80 : decode cX9_pair 80 = .ok (.aload_n 0, 1) := by decide +kernel
theorem dX9_pair_81 : decode cX9_pair 81 = .ok (.iload_n 3, 1) := by decide +kernel
theorem dX9_pair_82 : decode cX9_pair 82 = .ok (.aload_n 0, 1) := by decide +kernel
theorem dX9_pair_83 : decode cX9_pair 83 = .ok (.getfield 16, 3) := by decide +kernel
theorem dX9_pair_86 : decode cX9_pair 86 = .ok (.iload_n 1, 1) := by decide +kernel
theorem dX9_pair_87 : decode cX9_pair 87 = .ok (.iaload, 1) := by decide +kernel
theorem dX9_pair_88 : decode cX9_pair 88 = .ok (.iload_n 2, 1) := by decide +kernel
theorem dX9_pair_89 : decode cX9_pair 89 = .ok (.iconst 0, 1) := by decide +kernel
theorem dX9_pair_90 : decode cX9_pair 90 = .ok (.invokevirtual 109, 3) := by decide +kernel
theorem dX9_pair_93 : decode cX9_pair 93 = .ok (.aload_n 0, 1) := by decide +kernel
theorem dX9_pair_94 : decode cX9_pair 94 = .ok (.getfield 19, 3) := by decide +kernel
theorem dX9_pair_97 : decode cX9_pair 97 = .ok (.iload_n 3, 1) := by decide +kernel
theorem dX9_pair_98 : decode cX9_pair 98 = .ok (.aload_n 0, 1) := by decide +kernel
theorem dX9_pair_99 : decode cX9_pair 99 = .ok (.iload_n 3, 1) := by decide +kernel
theorem dX9_pair_100 : decode cX9_pair 100 = .ok (.invokevirtual 113, 3) := by decide +kernel
theorem dX9_pair_103 : decode cX9_pair 103 = .ok (.lastore, 1) := by decide +kernel
theorem dX9_pair_104 : decode cX9_pair 104 = .ok (.iload_n 3, 1) := by decide +kernel
theorem dX9_pair_105 : decode cX9_pair 105 = .ok (.ireturn, 1) := by decide +kernel
theorem dX9_triple_0 : decode cX9_triple 0 = .ok (.aload_n 0, 1) := by decide +kernel
theorem dX9_triple_1 : decode cX9_triple 1 = .ok (.iload_n 1, 1) := by decide +kernel
theorem dX9_triple_2 : decode cX9_triple 2 = .ok (.invokevirtual 101, 3) := by decide +kernel
theorem dX9_triple_5 : decode cX9_triple 5 = .ok (.ifCond .ne 19, 3) := by decide +kernel
theorem dX9_triple_8 : decode cX9_triple 8 = .ok (.aload_n 0, 1) := by decide +kernel
theorem dX9_triple_9 : decode cX9_triple 9 = .ok (.iload_n 2, 1) := by decide +kernel
theorem dX9_triple_10 : decode cX9_triple 10 = .ok (.invokevirtual 101, 3) := by decide +kernel
theorem dX9_triple_13 : decode cX9_triple 13 = .ok (.ifCond .ne 11, 3) := by decide +kernel
theorem dX9_triple_16 : decode cX9_triple 16 = .ok (.aload_n 0, 1) := by decide +kernel
theorem dX9_triple_17 : decode cX9_triple 17 = .ok (.iload_n 3, 1) := by decide +kernel
theorem dX9_triple_18 : decode cX9_triple 18 = .ok (.invokevirtual 101, 3) := by decide +kernel
theorem dX9_triple_21 : decode cX9_triple 21 = .ok (.ifCond .eq 6, 3) := by decide +kernel
theorem dX9_triple_24 : decode cX9_triple 24 = .ok (.bipush (-101), 2) := by decide +kernel
theorem dX9_triple_26 : decode cX9_triple 26 = .ok (.ireturn, 1) := by decide +kernel
theorem dX9_triple_27 : decode cX9_triple 27 = .ok (.aload_n 0, 1) := by decide +kernel
theorem dX9_triple_28 : decode cX9_triple 28 = .ok (.getfield 16, 3) := by decide +kernel
theorem dX9_triple_31 : decode cX9_triple 31 = .ok (.iload_n 1, 1) := by decide +kernel
theorem dX9_triple_32 : decode cX9_triple 32 = .ok (.iaload, 1) := by decide +kernel
theorem dX9_triple_33 : decode cX9_triple 33 = .ok (.aload_n 0, 1) := by decide +kernel
theorem dX9_triple_34 : decode cX9_triple 34 = .ok (.getfield 16, 3) := by decide +kernel
theorem dX9_triple_37 : decode cX9_triple 37 = .ok (.iload_n 2, 1) := by decide +kernel
theorem dX9_triple_38 : decode cX9_triple 38 = .ok (.iaload, 1) := by decide +kernel
theorem dX9_triple_39 : decode cX9_triple 39 = .ok (.iadd, 1) := by decide +kernel
theorem dX9_triple_40 : decode cX9_triple 40 = .ok (.aload_n 0, 1) := by decide +kernel
theorem dX9_triple_41 : decode cX9_triple 41 = .ok (.getfield 16, 3) := by decide +kernel
theorem dX9_triple_44 : decode cX9_triple 44 = .ok (.iload_n 3, 1) := by decide +kernel
theorem dX9_triple_45 : decode cX9_triple 45 = .ok (.iaload, 1) := by decide +kernel
theorem dX9_triple_46 : decode cX9_triple 46 = .ok (.iadd, 1) := by decide +kernel
theorem dX9_triple_47 : decode cX9_triple 47 = .ok (.bipush 8, 2) := by decide +kernel
theorem dX9_triple_49 : decode cX9_triple 49 = .ok (.if_icmp .le 6, 3) := by decide +kernel
theorem dX9_triple_52 : decode cX9_triple 52 = .ok (.bipush (-103), 2) := by decide +kernel
theorem dX9_triple_54 : decode cX9_triple 54 = .ok (.ireturn, 1) := by decide +kernel
theorem dX9_triple_55 : decode cX9_triple 55 = .ok (.aload_n 0, 1) := by decide +kernel
theorem dX9_triple_56 : decode cX9_triple 56 = .ok (.getfield 54, 3) := by decide +kernel
theorem dX9_triple_59 : decode cX9_triple 59 = .ok (.bipush 40, 2) := by decide +kernel
theorem dX9_triple_61 : decode cX9_triple 61 = .ok (.if_icmp .ne 6, 3) := by decide +kernel
theorem dX9_triple_64 : decode cX9_triple 64 = .ok (.bipush (-104), 2) := by decide +kernel
theorem dX9_triple_66 : decode cX9_triple 66 = .ok (.ireturn, 1) := by decide +kernel
theorem dX9_triple_67 : decode cX9_triple 67 = .ok (.aload_n 0, 1) := by decide +kernel
theorem dX9_triple_68 : decode cX9_triple 68 = .ok (.bipush 6, 2) := by decide +kernel
theorem dX9_triple_70 : decode cX9_triple 70 = .ok (.iconst 3, 1) := by decide +kernel
theorem dX9_triple_71 : decode cX9_triple 71 = .ok (.aload_n 0, 1) := by decide +kernel
theorem dX9_triple_72 : decode cX9_triple 72 = .ok (.getfield 16, 3) := by decide +kernel
theorem dX9_triple_75 : decode cX9_triple 75 = .ok (.iload_n 1, 1) := by decide +kernel
theorem dX9_triple_76 : decode cX9_triple 76 = .ok (.iaload, 1) := by decide +kernel
theorem dX9_triple_77 : decode cX9_triple 77 = .ok (.aload_n 0, 1) := by decide +kernel
theorem dX9_triple_78 : decode cX9_triple 78 = .ok (.getfield 16, 3) := by decide +kernel
theorem dX9_triple_81 : decode cX9_triple 81 = .ok (.iload_n 2, 1) := by decide +kernel
theorem dX9_triple_82 : decode cX9_triple 82 = .ok (.iaload, 1) := by decide +kernel
theorem dX9_triple_83 : decode cX9_triple 83 = .ok (.iadd, 1) := by decide +kernel
theorem dX9_triple_84 : decode cX9_triple 84 = .ok (.aload_n 0, 1) := by decide +kernel
theorem dX9_triple_85 : decode cX9_triple 85 = .ok (.getfield 16, 3) := by decide +kernel
theorem dX9_triple_88 : decode cX9_triple 88 = .ok (.iload_n 3, 1) := by decide +kernel
theorem dX9_triple_89 : decode cX9_triple 89 = .ok (.iaload, 1) := by decide +kernel
theorem dX9_triple_90 : decode cX9_triple 90 = .ok (.iadd, 1) := by decide +kernel
theorem dX9_triple_91 : decode cX9_triple 91 = .ok (.invokevirtual 105, 3) := by decide +kernel
theorem dX9_triple_94 : decode cX9_triple 94 = .ok (.istore 4, 2) := by decide +kernel
theorem dX9_triple_96 : decode cX9_triple 96 = .ok (.aload_n 0, 1) := by decide +kernel
theorem dX9_triple_97 : decode cX9_triple 97 = .ok (.iload 4, 2) := by decide +kernel
theorem dX9_triple_99 : decode cX9_triple 99 = .ok (.iconst 0, 1) := by decide +kernel
theorem dX9_triple_100 : decode cX9_triple 100 = .ok (.iload_n 1, 1) := by decide +kernel
theorem dX9_triple_101 : decode cX9_triple 101 = .ok (.iconst 0, 1) := by decide +kernel
theorem dX9_triple_102 : decode cX9_triple 102 = .ok (.invokevirtual 109, 3) := by decide +kernel
theorem dX9_triple_105 : decode cX9_triple 105 = .ok (.aload_n 0, 1) := by decide +kernel
theorem dX9_triple_106 : decode cX9_triple 106 = .ok (.iload 4, 2) := by decide +kernel
theorem dX9_triple_108 : decode cX9_triple 108 = .ok (.aload_n 0, 1) := by decide +kernel
theorem dX9_triple_109 : decode cX9_triple 109 = .ok (.getfield 16, 3) := by decide +kernel
theorem dX9_triple_112 : decode cX9_triple 112 = .ok (.iload_n 1, 1) := by decide +kernel
theorem dX9_triple_113 : decode cX9_triple 113 = .ok (.iaload, 1) := by decide +kernel
theorem dX9_triple_114 : decode cX9_triple 114 = .ok (.iload_n 2, 1) := by decide +kernel
theorem dX9_triple_115 : decode cX9_triple 115 = .ok (.iconst 0, 1) := by decide +kernel
theorem dX9_triple_116 : decode cX9_triple 116 = .ok (.invokevirtual 109, 3) := by decide +kernel
theorem dX9_triple_119 : decode cX9_triple 119 = .ok (.aload_n 0, 1) := by decide +kernel
theorem dX9_triple_120 : decode cX9_triple 120 = .ok (.iload 4, 2) := by decide +kernel
theorem dX9_triple_122 : decode cX9_triple 122 = .ok (.aload_n 0, 1) := by decide +kernel
theorem dX9_triple_123 : decode cX9_triple 123 = .ok (.getfield 16, 3) := by decide +kernel
theorem dX9_triple_126 : decode cX9_triple 126 = .ok (.iload_n 1, 1) := by decide +kernel
theorem dX9_triple_127 : decode cX9_triple 127 = .ok (.iaload, 1) := by decide +kernel
theorem dX9_triple_128 : decode cX9_triple 128 = .ok (.aload_n 0, 1) := by decide +kernel
theorem dX9_triple_129 : decode cX9_triple 129 = .ok (.getfield 16, 3) := by decide +kernel
theorem dX9_triple_132 : decode cX9_triple 132 = .ok (.iload_n 2, 1) := by decide +kernel
theorem dX9_triple_133 : decode cX9_triple 133 = .ok (.iaload, 1) := by decide +kernel
theorem dX9_triple_134 : decode cX9_triple 134 = .ok (.iadd, 1) := by decide +kernel
theorem dX9_triple_135 : decode cX9_triple 135 = .ok (.iload_n 3, 1) := by decide +kernel
theorem dX9_triple_136 : decode cX9_triple 136 = .ok (.iconst 0, 1) := by decide +kernel
theorem dX9_triple_137 : decode cX9_triple 137 = .ok (.invokevirtual 109, 3) := by decide +kernel
theorem dX9_triple_140 : decode cX9_triple 140 = .ok (.aload_n 0, 1) := by decide +kernel
theorem dX9_triple_141 : decode cX9_triple 141 = .ok (.getfield 19, 3) := by decide +kernel
theorem dX9_triple_144 : decode cX9_triple 144 = .ok (.iload 4, 2) := by decide +kernel
theorem dX9_triple_146 : decode cX9_triple 146 = .ok (.aload_n 0, 1) := by decide +kernel
theorem dX9_triple_147 : decode cX9_triple 147 = .ok (.iload 4, 2) := by decide +kernel
theorem dX9_triple_149 : decode cX9_triple 149 = .ok (.invokevirtual 113, 3) := by decide +kernel
theorem dX9_triple_152 : decode cX9_triple 152 = .ok (.lastore, 1) := by decide +kernel
theorem dX9_triple_153 : decode cX9_triple 153 = .ok (.iload 4, 2) := by decide +kernel
theorem dX9_triple_155 : decode cX9_triple 155 = .ok (.ireturn, 1) := by decide +kernel
theorem dX9_told_0 : decode cX9_told 0 = .ok (.aload_n 0, 1) := by decide +kernel
theorem dX9_told_1 : decode cX9_told 1 = .ok (.iload_n 1, 1) := by decide +kernel
theorem dX9_told_2 : decode cX9_told 2 = .ok (.invokevirtual 101, 3) := by decide +kernel
theorem dX9_told_5 : decode cX9_told 5 = .ok (.ifCond .eq 6, 3) := by decide +kernel
theorem dX9_told_8 : decode cX9_told 8 = .ok (.bipush (-101), 2) := by decide +kernel
theorem dX9_told_10 : decode cX9_told 10 = .ok (.ireturn, 1) := by decide +kernel
theorem dX9_told_11 : decode cX9_told 11 = .ok (.iload_n 2, 1) := by decide +kernel
theorem dX9_told_12 : decode cX9_told 12 = .ok (.tableswitch 53 0 3 #[32, 39, 46, 39], 32) := by decide +kernel
theorem dX9_told_44 : decode cX9_told 44 = .ok (.aload_n 0, 1) := by decide +kernel
theorem dX9_told_45 : decode cX9_told 45 = .ok (.getfield 7, 3) := by decide +kernel
theorem dX9_told_48 : decode cX9_told 48 = .ok (.iload_n 1, 1) := by decide +kernel
theorem dX9_told_49 : decode cX9_told 49 = .ok (.iaload, 1) := by decide +kernel
theorem dX9_told_50 : decode cX9_told 50 = .ok (.ireturn, 1) := by decide +kernel
theorem dX9_told_51 : decode cX9_told 51 = .ok (.aload_n 0, 1) := by decide +kernel
theorem dX9_told_52 : decode cX9_told 52 = .ok (.getfield 16, 3) := by decide +kernel
theorem dX9_told_55 : decode cX9_told 55 = .ok (.iload_n 1, 1) := by decide +kernel
theorem dX9_told_56 : decode cX9_told 56 = .ok (.iaload, 1) := by decide +kernel
theorem dX9_told_57 : decode cX9_told 57 = .ok (.ireturn, 1) := by decide +kernel
theorem dX9_told_58 : decode cX9_told 58 = .ok (.aload_n 0, 1) := by decide +kernel
theorem dX9_told_59 : decode cX9_told 59 = .ok (.getfield 13, 3) := by decide +kernel
theorem dX9_told_62 : decode cX9_told 62 = .ok (.iload_n 1, 1) := by decide +kernel
theorem dX9_told_63 : decode cX9_told 63 = .ok (.iaload, 1) := by decide +kernel
theorem dX9_told_64 : decode cX9_told 64 = .ok (.ireturn, 1) := by decide +kernel
theorem dX9_told_65 : decode cX9_told 65 = .ok (.bipush (-102), 2) := by decide +kernel
theorem dX9_told_67 : decode cX9_told 67 = .ok (.ireturn, 1) := by decide +kernel
theorem dX9_size_0 : decode cX9_size 0 = .ok (.aload_n 0, 1) := by decide +kernel
theorem dX9_size_1 : decode cX9_size 1 = .ok (.iload_n 1, 1) := by decide +kernel
theorem dX9_size_2 : decode cX9_size 2 = .ok (.invokevirtual 101, 3) := by decide +kernel
theorem dX9_size_5 : decode cX9_size 5 = .ok (.ifCond .eq 9, 3) := by decide +kernel
theorem dX9_size_8 : decode cX9_size 8 = .ok (.ldc2_w 116, 3) := by decide +kernel
theorem dX9_size_11 : decode cX9_size 11 = .ok (.goto 9, 3) := by decide +kernel
theorem dX9_size_14 : decode cX9_size 14 = .ok (.aload_n 0, 1) := by decide +kernel
theorem dX9_size_15 : decode cX9_size 15 = .ok (.getfield 19, 3) := by decide +kernel
theorem dX9_size_18 : decode cX9_size 18 = .ok (.iload_n 1, 1) := by decide +kernel
theorem dX9_size_19 : decode cX9_size 19 = .ok (.laload, 1) := by decide +kernel
theorem dX9_size_20 : decode cX9_size 20 = .ok (.lreturn, 1) := by decide +kernel
theorem dX9_hold_0 : decode cX9_hold 0 = .ok (.aload_n 0, 1) := by decide +kernel
theorem dX9_hold_1 : decode cX9_hold 1 = .ok (.iload_n 1, 1) := by decide +kernel
theorem dX9_hold_2 : decode cX9_hold 2 = .ok (.i2l, 1) := by decide +kernel
theorem dX9_hold_3 : decode cX9_hold 3 = .ok (.lconst 0, 1) := by decide +kernel
theorem dX9_hold_4 : decode cX9_hold 4 = .ok (.ldc2_w 118, 3) := by decide +kernel
theorem dX9_hold_7 : decode cX9_hold 7 = .ok (.invokestatic 58, 3) := by decide +kernel
theorem dX9_hold_10 : decode cX9_hold 10 = .ok (.ifCond .eq 7, 3) := by decide +kernel
theorem dX9_hold_13 : decode cX9_hold 13 = .ok (.iconst 0, 1) := by decide +kernel
theorem dX9_hold_14 : decode cX9_hold 14 = .ok (.goto 4, 3) := by decide +kernel
theorem dX9_hold_17 : decode cX9_hold 17 = .ok (.iconst 1, 1) := by decide +kernel
theorem dX9_hold_18 : decode cX9_hold 18 = .ok (.putfield 65, 3) := by decide +kernel
theorem dX9_hold_21 : decode cX9_hold 21 = .ok (.aload_n 0, 1) := by decide +kernel
theorem dX9_hold_22 : decode cX9_hold 22 = .ok (.getfield 65, 3) := by decide +kernel
theorem dX9_hold_25 : decode cX9_hold 25 = .ok (.ifCond .le 5, 3) := by decide +kernel
theorem dX9_hold_28 : decode cX9_hold 28 = .ok (.lconst 0, 1) := by decide +kernel
theorem dX9_hold_29 : decode cX9_hold 29 = .ok (.lreturn, 1) := by decide +kernel
theorem dX9_hold_30 : decode cX9_hold 30 = .ok (.aload_n 0, 1) := by decide +kernel
theorem dX9_hold_31 : decode cX9_hold 31 = .ok (.getfield 42, 3) := by decide +kernel
theorem dX9_hold_34 : decode cX9_hold 34 = .ok (.iload_n 1, 1) := by decide +kernel
theorem dX9_hold_35 : decode cX9_hold 35 = .ok (.laload, 1) := by decide +kernel
theorem dX9_hold_36 : decode cX9_hold 36 = .ok (.lstore 4, 2) := by decide +kernel
theorem dX9_hold_38 : decode cX9_hold 38 = .ok (.aload_n 0, 1) := by decide +kernel
theorem dX9_hold_39 : decode cX9_hold 39 = .ok (.getfield 42, 3) := by decide +kernel
theorem dX9_hold_42 : decode cX9_hold 42 = .ok (.iload_n 1, 1) := by decide +kernel
theorem dX9_hold_43 : decode cX9_hold 43 = .ok (.lload_n 2, 1) := by decide +kernel
theorem dX9_hold_44 : decode cX9_hold 44 = .ok (.lastore, 1) := by decide +kernel
theorem dX9_hold_45 : decode cX9_hold 45 = .ok (.lload 4, 2) := by decide +kernel
theorem dX9_hold_47 : decode cX9_hold 47 = .ok (.lreturn, 1) := by decide +kernel
theorem dX9_held_0 : decode cX9_held 0 = .ok (.aload_n 0, 1) := by decide +kernel
theorem dX9_held_1 : decode cX9_held 1 = .ok (.iload_n 1, 1) := by decide +kernel
theorem dX9_held_2 : decode cX9_held 2 = .ok (.i2l, 1) := by decide +kernel
theorem dX9_held_3 : decode cX9_held 3 = .ok (.lconst 0, 1) := by decide +kernel
theorem dX9_held_4 : decode cX9_held 4 = .ok (.ldc2_w 118, 3) := by decide +kernel
theorem dX9_held_7 : decode cX9_held 7 = .ok (.invokestatic 58, 3) := by decide +kernel
theorem dX9_held_10 : decode cX9_held 10 = .ok (.ifCond .eq 7, 3) := by decide +kernel
theorem dX9_held_13 : decode cX9_held 13 = .ok (.iconst 0, 1) := by decide +kernel
theorem dX9_held_14 : decode cX9_held 14 = .ok (.goto 4, 3) := by decide +kernel
theorem dX9_held_17 : decode cX9_held 17 = .ok (.iconst 1, 1) := by decide +kernel
theorem dX9_held_18 : decode cX9_held 18 = .ok (.putfield 65, 3) := by decide +kernel
theorem dX9_held_21 : decode cX9_held 21 = .ok (.aload_n 0, 1) := by decide +kernel
theorem dX9_held_22 : decode cX9_held 22 = .ok (.getfield 65, 3) := by decide +kernel
theorem dX9_held_25 : decode cX9_held 25 = .ok (.ifCond .le 7, 3) := by decide +kernel
theorem dX9_held_28 : decode cX9_held 28 = .ok (.lconst 0, 1) := by decide +kernel
theorem dX9_held_29 : decode cX9_held 29 = .ok (.goto 9, 3) := by decide +kernel
theorem dX9_held_32 : decode cX9_held 32 = .ok (.aload_n 0, 1) := by decide +kernel
theorem dX9_held_33 : decode cX9_held 33 = .ok (.getfield 42, 3) := by decide +kernel
theorem dX9_held_36 : decode cX9_held 36 = .ok (.iload_n 1, 1) := by decide +kernel
theorem dX9_held_37 : decode cX9_held 37 = .ok (.laload, 1) := by decide +kernel
theorem dX9_held_38 : decode cX9_held 38 = .ok (.lreturn, 1) := by decide +kernel
theorem dX9_isHeld_0 : decode cX9_isHeld 0 = .ok (.iconst 0, 1) := by decide +kernel
theorem dX9_isHeld_1 : decode cX9_isHeld 1 = .ok (.istore_n 2, 1) := by decide +kernel
theorem dX9_isHeld_2 : decode cX9_isHeld 2 = .ok (.iload_n 2, 1) := by decide +kernel
theorem dX9_isHeld_3 : decode cX9_isHeld 3 = .ok (.aload_n 0, 1) := by decide +kernel
theorem dX9_isHeld_4 : decode cX9_isHeld 4 = .ok (.getfield 16, 3) := by decide +kernel
theorem dX9_isHeld_7 : decode cX9_isHeld 7 = .ok (.iload_n 1, 1) := by decide +kernel
theorem dX9_isHeld_8 : decode cX9_isHeld 8 = .ok (.iaload, 1) := by decide +kernel
theorem dX9_isHeld_9 : decode cX9_isHeld 9 = .ok (.if_icmp .ge 77, 3) := by decide +kernel
theorem dX9_isHeld_12 : decode cX9_isHeld 12 = .ok (.aload_n 0, 1) := by decide +kernel
theorem dX9_isHeld_13 : decode cX9_isHeld 13 = .ok (.getfield 32, 3) := by decide +kernel
theorem dX9_isHeld_16 : decode cX9_isHeld 16 = .ok (.bipush 8, 2) := by decide +kernel
theorem dX9_isHeld_18 : decode cX9_isHeld 18 = .ok (.iload_n 1, 1) := by decide +kernel
theorem dX9_isHeld_19 : decode cX9_isHeld 19 = .ok (.imul, 1) := by decide +kernel
theorem dX9_isHeld_20 : decode cX9_isHeld 20 = .ok (.iload_n 2, 1) := by decide +kernel
theorem dX9_isHeld_21 : decode cX9_isHeld 21 = .ok (.iadd, 1) := by decide +kernel
theorem dX9_isHeld_22 : decode cX9_isHeld 22 = .ok (.iaload, 1) := by decide +kernel
theorem dX9_isHeld_23 : decode cX9_isHeld 23 = .ok (.istore_n 3, 1) := by decide +kernel
theorem dX9_isHeld_24 : decode cX9_isHeld 24 = .ok (.aload_n 0, 1) := by decide +kernel
theorem dX9_isHeld_25 : decode cX9_isHeld 25 = .ok (.iload_n 3, 1) := by decide +kernel
theorem dX9_isHeld_26 : decode cX9_isHeld 26 = .ok (.aload_n 0, 1) := by decide +kernel
theorem dX9_isHeld_27 : decode cX9_isHeld 27 = .ok (.getfield 42, 3) := by decide +kernel
theorem dX9_isHeld_30 : decode cX9_isHeld 30 = .ok (.iload_n 2, 1) := by decide +kernel
theorem dX9_isHeld_31 : decode cX9_isHeld 31 = .ok (.laload, 1) := by decide +kernel
theorem dX9_isHeld_32 : decode cX9_isHeld 32 = .ok (.invokevirtual 120, 3) := by decide +kernel
theorem dX9_isHeld_35 : decode cX9_isHeld 35 = .ok (.ifCond .ne 45, 3) := by decide +kernel
theorem dX9_isHeld_38 : decode cX9_isHeld 38 = .ok (.aload_n 0, 1) := by decide +kernel
theorem dX9_isHeld_39 : decode cX9_isHeld 39 = .ok (.iconst 1, 1) := by decide +kernel
theorem dX9_isHeld_40 : decode cX9_isHeld 40 = .ok (.putfield 124, 3) := by decide +kernel
theorem dX9_isHeld_43 : decode cX9_isHeld 43 = .ok (.aload_n 0, 1) := by decide +kernel
theorem dX9_isHeld_44 : decode cX9_isHeld 44 = .ok (.iload_n 3, 1) := by decide +kernel
theorem dX9_isHeld_45 : decode cX9_isHeld 45 = .ok (.putfield 128, 3) := by decide +kernel
theorem dX9_isHeld_48 : decode cX9_isHeld 48 = .ok (.aload_n 0, 1) := by decide +kernel
theorem dX9_isHeld_49 : decode cX9_isHeld 49 = .ok (.iload_n 2, 1) := by decide +kernel
theorem dX9_isHeld_50 : decode cX9_isHeld 50 = .ok (.putfield 131, 3) := by decide +kernel
theorem dX9_isHeld_53 : decode cX9_isHeld 53 = .ok (.aload_n 0, 1) := by decide +kernel
theorem dX9_isHeld_54 : decode cX9_isHeld 54 = .ok (.aload_n 0, 1) := by decide +kernel
theorem dX9_isHeld_55 : decode cX9_isHeld 55 = .ok (.getfield 39, 3) := by decide +kernel
theorem dX9_isHeld_58 : decode cX9_isHeld 58 = .ok (.bipush 8, 2) := by decide +kernel
theorem dX9_isHeld_60 : decode cX9_isHeld 60 = .ok (.iload_n 1, 1) := by decide +kernel
theorem dX9_isHeld_61 : decode cX9_isHeld 61 = .ok (.imul, 1) := by decide +kernel
theorem dX9_isHeld_62 : decode cX9_isHeld 62 = .ok (.iload_n 2, 1) := by decide +kernel
theorem dX9_isHeld_63 : decode cX9_isHeld 63 = .ok (.iadd, 1) := by decide +kernel
theorem dX9_isHeld_64 : decode cX9_isHeld 64 = .ok (.iaload, 1) := by decide +kernel
theorem dX9_isHeld_65 : decode cX9_isHeld 65 = .ok (.putfield 134, 3) := by decide +kernel
theorem dX9_isHeld_68 : decode cX9_isHeld 68 = .ok (.aload_n 0, 1) := by decide +kernel
theorem dX9_isHeld_69 : decode cX9_isHeld 69 = .ok (.dup, 1) := by decide +kernel
theorem dX9_isHeld_70 : decode cX9_isHeld 70 = .ok (.getfield 137, 3) := by decide +kernel
theorem dX9_isHeld_73 : decode cX9_isHeld 73 = .ok (.iconst 1, 1) := by decide +kernel
theorem dX9_isHeld_74 : decode cX9_isHeld 74 = .ok (.iadd, 1) := by decide +kernel
theorem dX9_isHeld_75 : decode cX9_isHeld 75 = .ok (.putfield 137, 3) := by decide +kernel
theorem dX9_isHeld_78 : decode cX9_isHeld 78 = .ok (.iconst 0, 1) := by decide +kernel
theorem dX9_isHeld_79 : decode cX9_isHeld 79 = .ok (.ireturn, 1) := by decide +kernel
theorem dX9_isHeld_80 : decode cX9_isHeld 80 = .ok (.iinc 2 1, 3) := by decide +kernel
theorem dX9_isHeld_83 : decode cX9_isHeld 83 = .ok (.goto (-81), 3) := by decide +kernel
theorem dX9_isHeld_86 : decode cX9_isHeld 86 = .ok (.iconst 1, 1) := by decide +kernel
theorem dX9_isHeld_87 : decode cX9_isHeld 87 = .ok (.ireturn, 1) := by decide +kernel
theorem dX9_place_0 : decode cX9_place 0 = .ok (.lconst 0, 1) := by decide +kernel
theorem dX9_place_1 : decode cX9_place 1 = .ok (.lstore_n 2, 1) := by decide +kernel
theorem dX9_place_2 : decode cX9_place 2 = .ok (.iconst 0, 1) := by decide +kernel
theorem dX9_place_3 : decode cX9_place 3 = .ok (.istore 4, 2) := by decide +kernel
theorem dX9_place_5 : decode cX9_place 5 = .ok (.iload 4, 2) := by decide +kernel
theorem dX9_place_7 : decode cX9_place 7 = .ok (.aload_n 0, 1) := by decide +kernel
theorem dX9_place_8 : decode cX9_place 8 = .ok (.getfield 16, 3) := by decide +kernel
theorem dX9_place_11 : decode cX9_place 11 = .ok (.iload_n 1, 1) := by decide +kernel
theorem dX9_place_12 : decode cX9_place 12 = .ok (.iaload, 1) := by decide +kernel
theorem dX9_place_13 : decode cX9_place 13 = .ok (.if_icmp .ge 133, 3) := by decide +kernel
theorem dX9_place_16 : decode cX9_place 16 = .ok (.aload_n 0, 1) := by decide +kernel
theorem dX9_place_17 : decode cX9_place 17 = .ok (.getfield 32, 3) := by decide +kernel
theorem dX9_place_20 : decode cX9_place 20 = .ok (.bipush 8, 2) := by decide +kernel
theorem dX9_place_22 : decode cX9_place 22 = .ok (.iload_n 1, 1) := by decide +kernel
theorem dX9_place_23 : decode cX9_place 23 = .ok (.imul, 1) := by decide +kernel
theorem dX9_place_24 : decode cX9_place 24 = .ok (.iload 4, 2) := by decide +kernel
theorem dX9_place_26 : decode cX9_place 26 = .ok (.iadd, 1) := by decide +kernel
theorem dX9_place_27 : decode cX9_place 27 = .ok (.iaload, 1) := by decide +kernel
theorem dX9_place_28 : decode cX9_place 28 = .ok (.istore 5, 2) := by decide +kernel
theorem dX9_place_30 : decode cX9_place 30 = .ok (.aload_n 0, 1) := by decide +kernel
theorem dX9_place_31 : decode cX9_place 31 = .ok (.iload 5, 2) := by decide +kernel
theorem dX9_place_33 : decode cX9_place 33 = .ok (.aload_n 0, 1) := by decide +kernel
theorem dX9_place_34 : decode cX9_place 34 = .ok (.getfield 42, 3) := by decide +kernel
theorem dX9_place_37 : decode cX9_place 37 = .ok (.iload 4, 2) := by decide +kernel
theorem dX9_place_39 : decode cX9_place 39 = .ok (.laload, 1) := by decide +kernel
theorem dX9_place_40 : decode cX9_place 40 = .ok (.invokevirtual 140, 3) := by decide +kernel
theorem dX9_place_43 : decode cX9_place 43 = .ok (.lstore 6, 2) := by decide +kernel
theorem dX9_place_45 : decode cX9_place 45 = .ok (.aload_n 0, 1) := by decide +kernel
theorem dX9_place_46 : decode cX9_place 46 = .ok (.getfield 35, 3) := by decide +kernel
theorem dX9_place_49 : decode cX9_place 49 = .ok (.bipush 8, 2) := by decide +kernel
theorem dX9_place_51 : decode cX9_place 51 = .ok (.iload_n 1, 1) := by decide +kernel
theorem dX9_place_52 : decode cX9_place 52 = .ok (.imul, 1) := by decide +kernel
theorem dX9_place_53 : decode cX9_place 53 = .ok (.iload 4, 2) := by decide +kernel
theorem dX9_place_55 : decode cX9_place 55 = .ok (.iadd, 1) := by decide +kernel
theorem dX9_place_56 : decode cX9_place 56 = .ok (.baload, 1) := by decide +kernel
theorem dX9_place_57 : decode cX9_place 57 = .ok (.ifCond .eq 18, 3) := by decide +kernel
theorem dX9_place_60 : decode cX9_place 60 = .ok (.aload_n 0, 1) := by decide +kernel
theorem dX9_place_61 : decode cX9_place 61 = .ok (.getfield 19, 3) := by decide +kernel
theorem dX9_place_64 : decode cX9_place 64 = .ok (.iload 5, 2) := by decide +kernel
theorem dX9_place_66 : decode cX9_place 66 = .ok (.laload, 1) := by decide +kernel
theorem dX9_place_67 : decode cX9_place 67 = .ok (.lconst 1, 1) := by decide +kernel
theorem dX9_place_68 : decode cX9_place 68 = .ok (.lsub, 1) := by decide +kernel
theorem dX9_place_69 : decode cX9_place 69 = .ok (.lload 6, 2) := by decide +kernel
theorem dX9_place_71 : decode cX9_place 71 = .ok (.lsub, 1) := by decide +kernel
theorem dX9_place_72 : decode cX9_place 72 = .ok (.goto 5, 3) := by decide +kernel
theorem dX9_place_75 : decode cX9_place 75 = .ok (.lload 6, 2) := by decide +kernel
theorem dX9_place_77 : decode cX9_place 77 = .ok (.lstore 6, 2) := by decide +kernel
theorem dX9_place_79 : decode cX9_place 79 = .ok (.lload_n 2, 1) := by decide +kernel
theorem dX9_place_80 : decode cX9_place 80 = .ok (.aload_n 0, 1) := by decide +kernel
theorem dX9_place_81 : decode cX9_place 81 = .ok (.getfield 19, 3) := by decide +kernel
theorem dX9_place_84 : decode cX9_place 84 = .ok (.iload 5, 2) := by decide +kernel
theorem dX9_place_86 : decode cX9_place 86 = .ok (.laload, 1) := by decide +kernel
theorem dX9_place_87 : decode cX9_place 87 = .ok (.invokestatic 97, 3) := by decide +kernel
theorem dX9_place_90 : decode cX9_place 90 = .ok (.lstore 8, 2) := by decide +kernel
theorem dX9_place_92 : decode cX9_place 92 = .ok (.lload_n 2, 1) := by decide +kernel
theorem dX9_place_93 : decode cX9_place 93 = .ok (.ldc2_w 68, 3) := by decide +kernel
theorem dX9_place_96 : decode cX9_place 96 = .ok (.lcmp, 1) := by decide +kernel
theorem dX9_place_97 : decode cX9_place 97 = .ok (.ifCond .eq 31, 3) := by decide +kernel
theorem dX9_place_100 : decode cX9_place 100 = .ok (.lload 8, 2) := by decide +kernel
theorem dX9_place_102 : decode cX9_place 102 = .ok (.ldc2_w 68, 3) := by decide +kernel
theorem dX9_place_105 : decode cX9_place 105 = .ok (.lcmp, 1) := by decide +kernel
theorem dX9_place_106 : decode cX9_place 106 = .ok (.ifCond .eq 22, 3) := by decide +kernel
theorem dX9_place_109 : decode cX9_place 109 = .ok (.lload 6, 2) := by decide +kernel
theorem dX9_place_111 : decode cX9_place 111 = .ok (.lconst 0, 1) := by decide +kernel
theorem dX9_place_112 : decode cX9_place 112 = .ok (.lcmp, 1) := by decide +kernel
theorem dX9_place_113 : decode cX9_place 113 = .ok (.ifCond .lt 15, 3) := by decide +kernel
theorem dX9_place_116 : decode cX9_place 116 = .ok (.lload 8, 2) := by decide +kernel
theorem dX9_place_118 : decode cX9_place 118 = .ok (.ldc2_w 76, 3) := by decide +kernel
theorem dX9_place_121 : decode cX9_place 121 = .ok (.lload 6, 2) := by decide +kernel
theorem dX9_place_123 : decode cX9_place 123 = .ok (.lsub, 1) := by decide +kernel
theorem dX9_place_124 : decode cX9_place 124 = .ok (.lcmp, 1) := by decide +kernel
theorem dX9_place_125 : decode cX9_place 125 = .ok (.ifCond .le 9, 3) := by decide +kernel
theorem dX9_place_128 : decode cX9_place 128 = .ok (.ldc2_w 68, 3) := by decide +kernel
theorem dX9_place_131 : decode cX9_place 131 = .ok (.goto 8, 3) := by decide +kernel
theorem dX9_place_134 : decode cX9_place 134 = .ok (.lload 8, 2) := by decide +kernel
theorem dX9_place_136 : decode cX9_place 136 = .ok (.lload 6, 2) := by decide +kernel
theorem dX9_place_138 : decode cX9_place 138 = .ok (.ladd, 1) := by decide +kernel
theorem dX9_place_139 : decode cX9_place 139 = .ok (.lstore_n 2, 1) := by decide +kernel
theorem dX9_place_140 : decode cX9_place 140 = .ok (.iinc 4 1, 3) := by decide +kernel
theorem dX9_place_143 : decode cX9_place 143 = .ok (.goto (-138), 3) := by decide +kernel
theorem dX9_place_146 : decode cX9_place 146 = .ok (.lload_n 2, 1) := by decide +kernel
theorem dX9_place_147 : decode cX9_place 147 = .ok (.lreturn, 1) := by decide +kernel
theorem dX9_lay_0 : decode cX9_lay 0 = .ok (.lload_n 2, 1) := by decide +kernel
theorem dX9_lay_1 : decode cX9_lay 1 = .ok (.lstore 5, 2) := by decide +kernel
theorem dX9_lay_3 : decode cX9_lay 3 = .ok (.aload_n 0, 1) := by decide +kernel
theorem dX9_lay_4 : decode cX9_lay 4 = .ok (.getfield 16, 3) := by decide +kernel
theorem dX9_lay_7 : decode cX9_lay 7 = .ok (.iload_n 1, 1) := by decide +kernel
theorem dX9_lay_8 : decode cX9_lay 8 = .ok (.iaload, 1) := by decide +kernel
theorem dX9_lay_9 : decode cX9_lay 9 = .ok (.iconst 1, 1) := by decide +kernel
theorem dX9_lay_10 : decode cX9_lay 10 = .ok (.isub, 1) := by decide +kernel
theorem dX9_lay_11 : decode cX9_lay 11 = .ok (.istore 7, 2) := by decide +kernel
theorem dX9_lay_13 : decode cX9_lay 13 = .ok (.iload 7, 2) := by decide +kernel
theorem dX9_lay_15 : decode cX9_lay 15 = .ok (.ifCond .lt 127, 3) := by decide +kernel
theorem dX9_lay_18 : decode cX9_lay 18 = .ok (.aload_n 0, 1) := by decide +kernel
theorem dX9_lay_19 : decode cX9_lay 19 = .ok (.getfield 32, 3) := by decide +kernel
theorem dX9_lay_22 : decode cX9_lay 22 = .ok (.bipush 8, 2) := by decide +kernel
theorem dX9_lay_24 : decode cX9_lay 24 = .ok (.iload_n 1, 1) := by decide +kernel
theorem dX9_lay_25 : decode cX9_lay 25 = .ok (.imul, 1) := by decide +kernel
theorem dX9_lay_26 : decode cX9_lay 26 = .ok (.iload 7, 2) := by decide +kernel
theorem dX9_lay_28 : decode cX9_lay 28 = .ok (.iadd, 1) := by decide +kernel
theorem dX9_lay_29 : decode cX9_lay 29 = .ok (.iaload, 1) := by decide +kernel
theorem dX9_lay_30 : decode cX9_lay 30 = .ok (.istore 8, 2) := by decide +kernel
theorem dX9_lay_32 : decode cX9_lay 32 = .ok (.aload_n 0, 1) := by decide +kernel
theorem dX9_lay_33 : decode cX9_lay 33 = .ok (.getfield 19, 3) := by decide +kernel
theorem dX9_lay_36 : decode cX9_lay 36 = .ok (.iload 8, 2) := by decide +kernel
theorem dX9_lay_38 : decode cX9_lay 38 = .ok (.laload, 1) := by decide +kernel
theorem dX9_lay_39 : decode cX9_lay 39 = .ok (.ldc2_w 68, 3) := by decide +kernel
theorem dX9_lay_42 : decode cX9_lay 42 = .ok (.lcmp, 1) := by decide +kernel
theorem dX9_lay_43 : decode cX9_lay 43 = .ok (.ifCond .ne 8, 3) := by decide +kernel
theorem dX9_lay_46 : decode cX9_lay 46 = .ok (.lload 5, 2) := by decide +kernel
theorem dX9_lay_48 : decode cX9_lay 48 = .ok (.goto 13, 3) := by decide +kernel
theorem dX9_lay_51 : decode cX9_lay 51 = .ok (.lload 5, 2) := by decide +kernel
theorem dX9_lay_53 : decode cX9_lay 53 = .ok (.aload_n 0, 1) := by decide +kernel
theorem dX9_lay_54 : decode cX9_lay 54 = .ok (.getfield 19, 3) := by decide +kernel
theorem dX9_lay_57 : decode cX9_lay 57 = .ok (.iload 8, 2) := by decide +kernel
theorem dX9_lay_59 : decode cX9_lay 59 = .ok (.laload, 1) := by decide +kernel
theorem dX9_lay_60 : decode cX9_lay 60 = .ok (.lrem, 1) := by decide +kernel
theorem dX9_lay_61 : decode cX9_lay 61 = .ok (.lstore 9, 2) := by decide +kernel
theorem dX9_lay_63 : decode cX9_lay 63 = .ok (.aload_n 0, 1) := by decide +kernel
theorem dX9_lay_64 : decode cX9_lay 64 = .ok (.getfield 19, 3) := by decide +kernel
theorem dX9_lay_67 : decode cX9_lay 67 = .ok (.iload 8, 2) := by decide +kernel
theorem dX9_lay_69 : decode cX9_lay 69 = .ok (.laload, 1) := by decide +kernel
theorem dX9_lay_70 : decode cX9_lay 70 = .ok (.ldc2_w 68, 3) := by decide +kernel
theorem dX9_lay_73 : decode cX9_lay 73 = .ok (.lcmp, 1) := by decide +kernel
theorem dX9_lay_74 : decode cX9_lay 74 = .ok (.ifCond .ne 7, 3) := by decide +kernel
theorem dX9_lay_77 : decode cX9_lay 77 = .ok (.lconst 0, 1) := by decide +kernel
theorem dX9_lay_78 : decode cX9_lay 78 = .ok (.goto 13, 3) := by decide +kernel
theorem dX9_lay_81 : decode cX9_lay 81 = .ok (.lload 5, 2) := by decide +kernel
theorem dX9_lay_83 : decode cX9_lay 83 = .ok (.aload_n 0, 1) := by decide +kernel
theorem dX9_lay_84 : decode cX9_lay 84 = .ok (.getfield 19, 3) := by decide +kernel
theorem dX9_lay_87 : decode cX9_lay 87 = .ok (.iload 8, 2) := by decide +kernel
theorem dX9_lay_89 : decode cX9_lay 89 = .ok (.laload, 1) := by decide +kernel
theorem dX9_lay_90 : decode cX9_lay 90 = .ok (.ldiv, 1) := by decide +kernel
theorem dX9_lay_91 : decode cX9_lay 91 = .ok (.lstore 5, 2) := by decide +kernel
theorem dX9_lay_93 : decode cX9_lay 93 = .ok (.aload 4, 2) := by decide +kernel
theorem dX9_lay_95 : decode cX9_lay 95 = .ok (.iload 7, 2) := by decide +kernel
theorem dX9_lay_97 : decode cX9_lay 97 = .ok (.aload_n 0, 1) := by decide +kernel
theorem dX9_lay_98 : decode cX9_lay 98 = .ok (.iload 8, 2) := by decide +kernel
theorem dX9_lay_100 : decode cX9_lay 100 = .ok (.aload_n 0, 1) := by decide +kernel
theorem dX9_lay_101 : decode cX9_lay 101 = .ok (.getfield 35, 3) := by decide +kernel
theorem dX9_lay_104 : decode cX9_lay 104 = .ok (.bipush 8, 2) := by decide +kernel
theorem dX9_lay_106 : decode cX9_lay 106 = .ok (.iload_n 1, 1) := by decide +kernel
theorem dX9_lay_107 : decode cX9_lay 107 = .ok (.imul, 1) := by decide +kernel
theorem dX9_lay_108 : decode cX9_lay 108 = .ok (.iload 7, 2) := by decide +kernel
theorem dX9_lay_110 : decode cX9_lay 110 = .ok (.iadd, 1) := by decide +kernel
theorem dX9_lay_111 : decode cX9_lay 111 = .ok (.baload, 1) := by decide +kernel
theorem dX9_lay_112 : decode cX9_lay 112 = .ok (.ifCond .eq 18, 3) := by decide +kernel
theorem dX9_lay_115 : decode cX9_lay 115 = .ok (.aload_n 0, 1) := by decide +kernel
theorem dX9_lay_116 : decode cX9_lay 116 = .ok (.getfield 19, 3) := by decide +kernel
theorem dX9_lay_119 : decode cX9_lay 119 = .ok (.iload 8, 2) := by decide +kernel
theorem dX9_lay_121 : decode cX9_lay 121 = .ok (.laload, 1) := by decide +kernel
theorem dX9_lay_122 : decode cX9_lay 122 = .ok (.lconst 1, 1) := by decide +kernel
theorem dX9_lay_123 : decode cX9_lay 123 = .ok (.lsub, 1) := by decide +kernel
theorem dX9_lay_124 : decode cX9_lay 124 = .ok (.lload 9, 2) := by decide +kernel
theorem dX9_lay_126 : decode cX9_lay 126 = .ok (.lsub, 1) := by decide +kernel
theorem dX9_lay_127 : decode cX9_lay 127 = .ok (.goto 5, 3) := by decide +kernel
theorem dX9_lay_130 : decode cX9_lay 130 = .ok (.lload 9, 2) := by decide +kernel
theorem dX9_lay_132 : decode cX9_lay 132 = .ok (.invokevirtual 144, 3) := by decide +kernel
theorem dX9_lay_135 : decode cX9_lay 135 = .ok (.lastore, 1) := by decide +kernel
theorem dX9_lay_136 : decode cX9_lay 136 = .ok (.iinc 7 (-1), 3) := by decide +kernel
theorem dX9_lay_139 : decode cX9_lay 139 = .ok (.goto (-126), 3) := by decide +kernel
theorem dX9_lay_142 : decode cX9_lay 142 = .ok (.return_, 1) := by decide +kernel
theorem dX9_hasPlace_0 : decode cX9_hasPlace 0 = .ok (.lload_n 2, 1) := by decide +kernel
theorem dX9_hasPlace_1 : decode cX9_hasPlace 1 = .ok (.lconst 0, 1) := by decide +kernel
theorem dX9_hasPlace_2 : decode cX9_hasPlace 2 = .ok (.lcmp, 1) := by decide +kernel
theorem dX9_hasPlace_3 : decode cX9_hasPlace 3 = .ok (.ifCond .lt 31, 3) := by decide +kernel
theorem dX9_hasPlace_6 : decode cX9_hasPlace 6 = .ok (.aload_n 0, 1) := by decide +kernel
theorem dX9_hasPlace_7 : decode cX9_hasPlace 7 = .ok (.getfield 19, 3) := by decide +kernel
theorem dX9_hasPlace_10 : decode cX9_hasPlace 10 = .ok (.iload_n 1, 1) := by decide +kernel
theorem dX9_hasPlace_11 : decode cX9_hasPlace 11 = .ok (.laload, 1) := by decide +kernel
theorem dX9_hasPlace_12 : decode cX9_hasPlace 12 = .ok (.ldc2_w 68, 3) := by decide +kernel
theorem dX9_hasPlace_15 : decode cX9_hasPlace 15 = .ok (.lcmp, 1) := by decide +kernel
theorem dX9_hasPlace_16 : decode cX9_hasPlace 16 = .ok (.ifCond .eq 14, 3) := by decide +kernel
theorem dX9_hasPlace_19 : decode cX9_hasPlace 19 = .ok (.lload_n 2, 1) := by decide +kernel
theorem dX9_hasPlace_20 : decode cX9_hasPlace 20 = .ok (.aload_n 0, 1) := by decide +kernel
theorem dX9_hasPlace_21 : decode cX9_hasPlace 21 = .ok (.getfield 19, 3) := by decide +kernel
theorem dX9_hasPlace_24 : decode cX9_hasPlace 24 = .ok (.iload_n 1, 1) := by decide +kernel
theorem dX9_hasPlace_25 : decode cX9_hasPlace 25 = .ok (.laload, 1) := by decide +kernel
theorem dX9_hasPlace_26 : decode cX9_hasPlace 26 = .ok (.lcmp, 1) := by decide +kernel
theorem dX9_hasPlace_27 : decode cX9_hasPlace 27 = .ok (.ifCond .ge 7, 3) := by decide +kernel
theorem dX9_hasPlace_30 : decode cX9_hasPlace 30 = .ok (.iconst 1, 1) := by decide +kernel
theorem dX9_hasPlace_31 : decode cX9_hasPlace 31 = .ok (.goto 4, 3) := by decide +kernel
theorem dX9_hasPlace_34 : decode cX9_hasPlace 34 = .ok (.iconst 0, 1) := by decide +kernel
theorem dX9_hasPlace_35 : decode cX9_hasPlace 35 = .ok (.ireturn, 1) := by decide +kernel
theorem dX9_index_0 : decode cX9_index 0 = .ok (.aload_n 0, 1) := by decide +kernel
theorem dX9_index_1 : decode cX9_index 1 = .ok (.iconst 0, 1) := by decide +kernel
theorem dX9_index_2 : decode cX9_index 2 = .ok (.putfield 65, 3) := by decide +kernel
theorem dX9_index_5 : decode cX9_index 5 = .ok (.aload_n 0, 1) := by decide +kernel
theorem dX9_index_6 : decode cX9_index 6 = .ok (.iload_n 1, 1) := by decide +kernel
theorem dX9_index_7 : decode cX9_index 7 = .ok (.invokevirtual 101, 3) := by decide +kernel
theorem dX9_index_10 : decode cX9_index 10 = .ok (.ifCond .eq 7, 3) := by decide +kernel
theorem dX9_index_13 : decode cX9_index 13 = .ok (.ldc2_w 116, 3) := by decide +kernel
theorem dX9_index_16 : decode cX9_index 16 = .ok (.lreturn, 1) := by decide +kernel
theorem dX9_index_17 : decode cX9_index 17 = .ok (.aload_n 0, 1) := by decide +kernel
theorem dX9_index_18 : decode cX9_index 18 = .ok (.iload_n 1, 1) := by decide +kernel
theorem dX9_index_19 : decode cX9_index 19 = .ok (.invokevirtual 147, 3) := by decide +kernel
theorem dX9_index_22 : decode cX9_index 22 = .ok (.ifCond .ne 10, 3) := by decide +kernel
theorem dX9_index_25 : decode cX9_index 25 = .ok (.aload_n 0, 1) := by decide +kernel
theorem dX9_index_26 : decode cX9_index 26 = .ok (.iconst 1, 1) := by decide +kernel
theorem dX9_index_27 : decode cX9_index 27 = .ok (.putfield 65, 3) := by decide +kernel
theorem dX9_index_30 : decode cX9_index 30 = .ok (.lconst 0, 1) := by decide +kernel
theorem dX9_index_31 : decode cX9_index 31 = .ok (.lreturn, 1) := by decide +kernel
theorem dX9_index_32 : decode cX9_index 32 = .ok (.aload_n 0, 1) := by decide +kernel
theorem dX9_index_33 : decode cX9_index 33 = .ok (.iload_n 1, 1) := by decide +kernel
theorem dX9_index_34 : decode cX9_index 34 = .ok (.invokevirtual 150, 3) := by decide +kernel
theorem dX9_index_37 : decode cX9_index 37 = .ok (.lreturn, 1) := by decide +kernel
theorem dX9_has_0 : decode cX9_has 0 = .ok (.aload_n 0, 1) := by decide +kernel
theorem dX9_has_1 : decode cX9_has 1 = .ok (.iload_n 1, 1) := by decide +kernel
theorem dX9_has_2 : decode cX9_has 2 = .ok (.invokevirtual 101, 3) := by decide +kernel
theorem dX9_has_5 : decode cX9_has 5 = .ok (.ifCond .eq 8, 3) := by decide +kernel
theorem dX9_has_8 : decode cX9_has 8 = .ok (.bipush (-101), 2) := by decide +kernel
theorem dX9_has_10 : decode cX9_has 10 = .ok (.goto 16, 3) := by decide +kernel
theorem dX9_has_13 : decode cX9_has 13 = .ok (.aload_n 0, 1) := by decide +kernel
theorem dX9_has_14 : decode cX9_has 14 = .ok (.iload_n 1, 1) := by decide +kernel
theorem dX9_has_15 : decode cX9_has 15 = .ok (.invokevirtual 147, 3) := by decide +kernel
theorem dX9_has_18 : decode cX9_has 18 = .ok (.ifCond .eq 7, 3) := by decide +kernel
theorem dX9_has_21 : decode cX9_has 21 = .ok (.iconst 1, 1) := by decide +kernel
theorem dX9_has_22 : decode cX9_has 22 = .ok (.goto 4, 3) := by decide +kernel
theorem dX9_has_25 : decode cX9_has 25 = .ok (.iconst 0, 1) := by decide +kernel
theorem dX9_has_26 : decode cX9_has 26 = .ok (.ireturn, 1) := by decide +kernel
theorem dX9_element_0 : decode cX9_element 0 = .ok (.aload_n 0, 1) := by decide +kernel
theorem dX9_element_1 : decode cX9_element 1 = .ok (.iconst 0, 1) := by decide +kernel
theorem dX9_element_2 : decode cX9_element 2 = .ok (.putfield 65, 3) := by decide +kernel
theorem dX9_element_5 : decode cX9_element 5 = .ok (.aload_n 0, 1) := by decide +kernel
theorem dX9_element_6 : decode cX9_element 6 = .ok (.iload_n 1, 1) := by decide +kernel
theorem dX9_element_7 : decode cX9_element 7 = .ok (.invokevirtual 101, 3) := by decide +kernel
theorem dX9_element_10 : decode cX9_element 10 = .ok (.ifCond .eq 6, 3) := by decide +kernel
theorem dX9_element_13 : decode cX9_element 13 = .ok (.bipush (-101), 2) := by decide +kernel
theorem dX9_element_15 : decode cX9_element 15 = .ok (.ireturn, 1) := by decide +kernel
theorem dX9_element_16 : decode cX9_element 16 = .ok (.aload_n 0, 1) := by decide +kernel
theorem dX9_element_17 : decode cX9_element 17 = .ok (.iload_n 1, 1) := by decide +kernel
theorem dX9_element_18 : decode cX9_element 18 = .ok (.lload_n 2, 1) := by decide +kernel
theorem dX9_element_19 : decode cX9_element 19 = .ok (.invokevirtual 153, 3) := by decide +kernel
theorem dX9_element_22 : decode cX9_element 22 = .ok (.ifCond .ne 10, 3) := by decide +kernel
theorem dX9_element_25 : decode cX9_element 25 = .ok (.aload_n 0, 1) := by decide +kernel
theorem dX9_element_26 : decode cX9_element 26 = .ok (.iconst 1, 1) := by decide +kernel
theorem dX9_element_27 : decode cX9_element 27 = .ok (.putfield 65, 3) := by decide +kernel
theorem dX9_element_30 : decode cX9_element 30 = .ok (.iconst 0, 1) := by decide +kernel
theorem dX9_element_31 : decode cX9_element 31 = .ok (.ireturn, 1) := by decide +kernel
theorem dX9_element_32 : decode cX9_element 32 = .ok (.aload_n 0, 1) := by decide +kernel
theorem dX9_element_33 : decode cX9_element 33 = .ok (.iload_n 1, 1) := by decide +kernel
theorem dX9_element_34 : decode cX9_element 34 = .ok (.lload_n 2, 1) := by decide +kernel
theorem dX9_element_35 : decode cX9_element 35 = .ok (.aload_n 0, 1) := by decide +kernel
theorem dX9_element_36 : decode cX9_element 36 = .ok (.getfield 42, 3) := by decide +kernel
theorem dX9_element_39 : decode cX9_element 39 = .ok (.invokevirtual 156, 3) := by decide +kernel
theorem dX9_element_42 : decode cX9_element 42 = .ok (.aload_n 0, 1) := by decide +kernel
theorem dX9_element_43 : decode cX9_element 43 = .ok (.getfield 16, 3) := by decide +kernel
theorem dX9_element_46 : decode cX9_element 46 = .ok (.iload_n 1, 1) := by decide +kernel
theorem dX9_element_47 : decode cX9_element 47 = .ok (.iaload, 1) := by decide +kernel
theorem dX9_element_48 : decode cX9_element 48 = .ok (.ireturn, 1) := by decide +kernel
theorem dX9_go_0 : decode cX9_go 0 = .ok (.aload_n 0, 1) := by decide +kernel
theorem dX9_go_1 : decode cX9_go 1 = .ok (.iconst 0, 1) := by decide +kernel
theorem dX9_go_2 : decode cX9_go 2 = .ok (.putfield 65, 3) := by decide +kernel
theorem dX9_go_5 : decode cX9_go 5 = .ok (.aload_n 0, 1) := by decide +kernel
theorem dX9_go_6 : decode cX9_go 6 = .ok (.iload_n 1, 1) := by decide +kernel
theorem dX9_go_7 : decode cX9_go 7 = .ok (.invokevirtual 101, 3) := by decide +kernel
theorem dX9_go_10 : decode cX9_go 10 = .ok (.ifCond .eq 7, 3) := by decide +kernel
theorem dX9_go_13 : decode cX9_go 13 = .ok (.ldc2_w 116, 3) := by decide +kernel
theorem dX9_go_16 : decode cX9_go 16 = .ok (.lreturn, 1) := by decide +kernel
theorem dX9_go_17 : decode cX9_go 17 = .ok (.aload_n 0, 1) := by decide +kernel
theorem dX9_go_18 : decode cX9_go 18 = .ok (.iload_n 1, 1) := by decide +kernel
theorem dX9_go_19 : decode cX9_go 19 = .ok (.invokevirtual 147, 3) := by decide +kernel
theorem dX9_go_22 : decode cX9_go 22 = .ok (.ifCond .ne 10, 3) := by decide +kernel
theorem dX9_go_25 : decode cX9_go 25 = .ok (.aload_n 0, 1) := by decide +kernel
theorem dX9_go_26 : decode cX9_go 26 = .ok (.iconst 1, 1) := by decide +kernel
theorem dX9_go_27 : decode cX9_go 27 = .ok (.putfield 65, 3) := by decide +kernel
theorem dX9_go_30 : decode cX9_go 30 = .ok (.lconst 0, 1) := by decide +kernel
theorem dX9_go_31 : decode cX9_go 31 = .ok (.lreturn, 1) := by decide +kernel
theorem dX9_go_32 : decode cX9_go 32 = .ok (.aload_n 0, 1) := by decide +kernel
theorem dX9_go_33 : decode cX9_go 33 = .ok (.iload_n 1, 1) := by decide +kernel
theorem dX9_go_34 : decode cX9_go 34 = .ok (.invokevirtual 150, 3) := by decide +kernel
theorem dX9_go_37 : decode cX9_go 37 = .ok (.lstore 4, 2) := by decide +kernel
theorem dX9_go_39 : decode cX9_go 39 = .ok (.lload 4, 2) := by decide +kernel
theorem dX9_go_41 : decode cX9_go 41 = .ok (.ldc2_w 68, 3) := by decide +kernel
theorem dX9_go_44 : decode cX9_go 44 = .ok (.lcmp, 1) := by decide +kernel
theorem dX9_go_45 : decode cX9_go 45 = .ok (.ifCond .ne 7, 3) := by decide +kernel
theorem dX9_go_48 : decode cX9_go 48 = .ok (.ldc2_w 160, 3) := by decide +kernel
theorem dX9_go_51 : decode cX9_go 51 = .ok (.lreturn, 1) := by decide +kernel
theorem dX9_go_52 : decode cX9_go 52 = .ok (.lload_n 2, 1) := by decide +kernel
theorem dX9_go_53 : decode cX9_go 53 = .ok (.ldc2_w 76, 3) := by decide +kernel
theorem dX9_go_56 : decode cX9_go 56 = .ok (.lload 4, 2) := by decide +kernel
theorem dX9_go_58 : decode cX9_go 58 = .ok (.lsub, 1) := by decide +kernel
theorem dX9_go_59 : decode cX9_go 59 = .ok (.lcmp, 1) := by decide +kernel
theorem dX9_go_60 : decode cX9_go 60 = .ok (.ifCond .gt 15, 3) := by decide +kernel
theorem dX9_go_63 : decode cX9_go 63 = .ok (.aload_n 0, 1) := by decide +kernel
theorem dX9_go_64 : decode cX9_go 64 = .ok (.iload_n 1, 1) := by decide +kernel
theorem dX9_go_65 : decode cX9_go 65 = .ok (.lload 4, 2) := by decide +kernel
theorem dX9_go_67 : decode cX9_go 67 = .ok (.lload_n 2, 1) := by decide +kernel
theorem dX9_go_68 : decode cX9_go 68 = .ok (.ladd, 1) := by decide +kernel
theorem dX9_go_69 : decode cX9_go 69 = .ok (.invokevirtual 153, 3) := by decide +kernel
theorem dX9_go_72 : decode cX9_go 72 = .ok (.ifCond .ne 10, 3) := by decide +kernel
theorem dX9_go_75 : decode cX9_go 75 = .ok (.aload_n 0, 1) := by decide +kernel
theorem dX9_go_76 : decode cX9_go 76 = .ok (.iconst 1, 1) := by decide +kernel
theorem dX9_go_77 : decode cX9_go 77 = .ok (.putfield 65, 3) := by decide +kernel
theorem dX9_go_80 : decode cX9_go 80 = .ok (.lconst 0, 1) := by decide +kernel
theorem dX9_go_81 : decode cX9_go 81 = .ok (.lreturn, 1) := by decide +kernel
theorem dX9_go_82 : decode cX9_go 82 = .ok (.aload_n 0, 1) := by decide +kernel
theorem dX9_go_83 : decode cX9_go 83 = .ok (.iload_n 1, 1) := by decide +kernel
theorem dX9_go_84 : decode cX9_go 84 = .ok (.lload 4, 2) := by decide +kernel
theorem dX9_go_86 : decode cX9_go 86 = .ok (.lload_n 2, 1) := by decide +kernel
theorem dX9_go_87 : decode cX9_go 87 = .ok (.ladd, 1) := by decide +kernel
theorem dX9_go_88 : decode cX9_go 88 = .ok (.aload_n 0, 1) := by decide +kernel
theorem dX9_go_89 : decode cX9_go 89 = .ok (.getfield 42, 3) := by decide +kernel
theorem dX9_go_92 : decode cX9_go 92 = .ok (.invokevirtual 156, 3) := by decide +kernel
theorem dX9_go_95 : decode cX9_go 95 = .ok (.lload 4, 2) := by decide +kernel
theorem dX9_go_97 : decode cX9_go 97 = .ok (.lload_n 2, 1) := by decide +kernel
theorem dX9_go_98 : decode cX9_go 98 = .ok (.ladd, 1) := by decide +kernel
theorem dX9_go_99 : decode cX9_go 99 = .ok (.lreturn, 1) := by decide +kernel
theorem dX9_miss_0 : decode cX9_miss 0 = .ok (.iload_n 1, 1) := by decide +kernel
theorem dX9_miss_1 : decode cX9_miss 1 = .ok (.i2l, 1) := by decide +kernel
theorem dX9_miss_2 : decode cX9_miss 2 = .ok (.lconst 0, 1) := by decide +kernel
theorem dX9_miss_3 : decode cX9_miss 3 = .ok (.ldc2_w 70, 3) := by decide +kernel
theorem dX9_miss_6 : decode cX9_miss 6 = .ok (.invokestatic 58, 3) := by decide +kernel
theorem dX9_miss_9 : decode cX9_miss 9 = .ok (.ifCond .ne 6, 3) := by decide +kernel
theorem dX9_miss_12 : decode cX9_miss 12 = .ok (.bipush (-102), 2) := by decide +kernel
theorem dX9_miss_14 : decode cX9_miss 14 = .ok (.ireturn, 1) := by decide +kernel
theorem dX9_miss_15 : decode cX9_miss 15 = .ok (.aload_n 0, 1) := by decide +kernel
theorem dX9_miss_16 : decode cX9_miss 16 = .ok (.getfield 124, 3) := by decide +kernel
theorem dX9_miss_19 : decode cX9_miss 19 = .ok (.ifCond .ne 6, 3) := by decide +kernel
theorem dX9_miss_22 : decode cX9_miss 22 = .ok (.bipush (-103), 2) := by decide +kernel
theorem dX9_miss_24 : decode cX9_miss 24 = .ok (.ireturn, 1) := by decide +kernel
theorem dX9_miss_25 : decode cX9_miss 25 = .ok (.iload_n 1, 1) := by decide +kernel
theorem dX9_miss_26 : decode cX9_miss 26 = .ok (.ifCond .ne 10, 3) := by decide +kernel
theorem dX9_miss_29 : decode cX9_miss 29 = .ok (.aload_n 0, 1) := by decide +kernel
theorem dX9_miss_30 : decode cX9_miss 30 = .ok (.getfield 128, 3) := by decide +kernel
theorem dX9_miss_33 : decode cX9_miss 33 = .ok (.goto 19, 3) := by decide +kernel
theorem dX9_miss_36 : decode cX9_miss 36 = .ok (.iload_n 1, 1) := by decide +kernel
theorem dX9_miss_37 : decode cX9_miss 37 = .ok (.iconst 1, 1) := by decide +kernel
theorem dX9_miss_38 : decode cX9_miss 38 = .ok (.if_icmp .ne 10, 3) := by decide +kernel
theorem dX9_miss_41 : decode cX9_miss 41 = .ok (.aload_n 0, 1) := by decide +kernel
theorem dX9_miss_42 : decode cX9_miss 42 = .ok (.getfield 131, 3) := by decide +kernel
theorem dX9_miss_45 : decode cX9_miss 45 = .ok (.goto 7, 3) := by decide +kernel
theorem dX9_miss_48 : decode cX9_miss 48 = .ok (.aload_n 0, 1) := by decide +kernel
theorem dX9_miss_49 : decode cX9_miss 49 = .ok (.getfield 134, 3) := by decide +kernel
theorem dX9_miss_52 : decode cX9_miss 52 = .ok (.ireturn, 1) := by decide +kernel
theorem dX9_liesIn_0 : decode cX9_liesIn 0 = .ok (.aload_n 0, 1) := by decide +kernel
theorem dX9_liesIn_1 : decode cX9_liesIn 1 = .ok (.getfield 19, 3) := by decide +kernel
theorem dX9_liesIn_4 : decode cX9_liesIn 4 = .ok (.iload_n 1, 1) := by decide +kernel
theorem dX9_liesIn_5 : decode cX9_liesIn 5 = .ok (.laload, 1) := by decide +kernel
theorem dX9_liesIn_6 : decode cX9_liesIn 6 = .ok (.lstore_n 3, 1) := by decide +kernel
theorem dX9_liesIn_7 : decode cX9_liesIn 7 = .ok (.aload_n 0, 1) := by decide +kernel
theorem dX9_liesIn_8 : decode cX9_liesIn 8 = .ok (.getfield 7, 3) := by decide +kernel
theorem dX9_liesIn_11 : decode cX9_liesIn 11 = .ok (.iload_n 1, 1) := by decide +kernel
theorem dX9_liesIn_12 : decode cX9_liesIn 12 = .ok (.iaload, 1) := by decide +kernel
theorem dX9_liesIn_13 : decode cX9_liesIn 13 = .ok (.iconst 2, 1) := by decide +kernel
theorem dX9_liesIn_14 : decode cX9_liesIn 14 = .ok (.if_icmp .eq 13, 3) := by decide +kernel
theorem dX9_liesIn_17 : decode cX9_liesIn 17 = .ok (.aload_n 0, 1) := by decide +kernel
theorem dX9_liesIn_18 : decode cX9_liesIn 18 = .ok (.getfield 7, 3) := by decide +kernel
theorem dX9_liesIn_21 : decode cX9_liesIn 21 = .ok (.iload_n 2, 1) := by decide +kernel
theorem dX9_liesIn_22 : decode cX9_liesIn 22 = .ok (.iaload, 1) := by decide +kernel
theorem dX9_liesIn_23 : decode cX9_liesIn 23 = .ok (.iconst 2, 1) := by decide +kernel
theorem dX9_liesIn_24 : decode cX9_liesIn 24 = .ok (.if_icmp .ne 53, 3) := by decide +kernel
theorem dX9_liesIn_27 : decode cX9_liesIn 27 = .ok (.lload_n 3, 1) := by decide +kernel
theorem dX9_liesIn_28 : decode cX9_liesIn 28 = .ok (.lconst 0, 1) := by decide +kernel
theorem dX9_liesIn_29 : decode cX9_liesIn 29 = .ok (.ldc2_w 88, 3) := by decide +kernel
theorem dX9_liesIn_32 : decode cX9_liesIn 32 = .ok (.invokestatic 58, 3) := by decide +kernel
theorem dX9_liesIn_35 : decode cX9_liesIn 35 = .ok (.istore 5, 2) := by decide +kernel
theorem dX9_liesIn_37 : decode cX9_liesIn 37 = .ok (.iconst 0, 1) := by decide +kernel
theorem dX9_liesIn_38 : decode cX9_liesIn 38 = .ok (.istore 6, 2) := by decide +kernel
theorem dX9_liesIn_40 : decode cX9_liesIn 40 = .ok (.iload 6, 2) := by decide +kernel
theorem dX9_liesIn_42 : decode cX9_liesIn 42 = .ok (.i2l, 1) := by decide +kernel
theorem dX9_liesIn_43 : decode cX9_liesIn 43 = .ok (.lload_n 3, 1) := by decide +kernel
theorem dX9_liesIn_44 : decode cX9_liesIn 44 = .ok (.lcmp, 1) := by decide +kernel
theorem dX9_liesIn_45 : decode cX9_liesIn 45 = .ok (.ifCond .ge 29, 3) := by decide +kernel
theorem dX9_liesIn_48 : decode cX9_liesIn 48 = .ok (.iload 5, 2) := by decide +kernel
theorem dX9_liesIn_50 : decode cX9_liesIn 50 = .ok (.ifCond .eq 24, 3) := by decide +kernel
theorem dX9_liesIn_53 : decode cX9_liesIn 53 = .ok (.aload_n 0, 1) := by decide +kernel
theorem dX9_liesIn_54 : decode cX9_liesIn 54 = .ok (.iload_n 2, 1) := by decide +kernel
theorem dX9_liesIn_55 : decode cX9_liesIn 55 = .ok (.aload_n 0, 1) := by decide +kernel
theorem dX9_liesIn_56 : decode cX9_liesIn 56 = .ok (.iload_n 1, 1) := by decide +kernel
theorem dX9_liesIn_57 : decode cX9_liesIn 57 = .ok (.iload 6, 2) := by decide +kernel
theorem dX9_liesIn_59 : decode cX9_liesIn 59 = .ok (.i2l, 1) := by decide +kernel
theorem dX9_liesIn_60 : decode cX9_liesIn 60 = .ok (.invokevirtual 144, 3) := by decide +kernel
theorem dX9_liesIn_63 : decode cX9_liesIn 63 = .ok (.invokevirtual 120, 3) := by decide +kernel
theorem dX9_liesIn_66 : decode cX9_liesIn 66 = .ok (.istore 5, 2) := by decide +kernel
theorem dX9_liesIn_68 : decode cX9_liesIn 68 = .ok (.iinc 6 1, 3) := by decide +kernel
theorem dX9_liesIn_71 : decode cX9_liesIn 71 = .ok (.goto (-31), 3) := by decide +kernel
theorem dX9_liesIn_74 : decode cX9_liesIn 74 = .ok (.iload 5, 2) := by decide +kernel
theorem dX9_liesIn_76 : decode cX9_liesIn 76 = .ok (.ireturn, 1) := by decide +kernel
theorem dX9_liesIn_77 : decode cX9_liesIn 77 = .ok (.aload_n 0, 1) := by decide +kernel
theorem dX9_liesIn_78 : decode cX9_liesIn 78 = .ok (.iload_n 2, 1) := by decide +kernel
theorem dX9_liesIn_79 : decode cX9_liesIn 79 = .ok (.aload_n 0, 1) := by decide +kernel
theorem dX9_liesIn_80 : decode cX9_liesIn 80 = .ok (.getfield 23, 3) := by decide +kernel
theorem dX9_liesIn_83 : decode cX9_liesIn 83 = .ok (.iload_n 1, 1) := by decide +kernel
theorem dX9_liesIn_84 : decode cX9_liesIn 84 = .ok (.laload, 1) := by decide +kernel
theorem dX9_liesIn_85 : decode cX9_liesIn 85 = .ok (.invokevirtual 120, 3) := by decide +kernel
theorem dX9_liesIn_88 : decode cX9_liesIn 88 = .ok (.ifCond .ne 5, 3) := by decide +kernel
theorem dX9_liesIn_91 : decode cX9_liesIn 91 = .ok (.iconst 0, 1) := by decide +kernel
theorem dX9_liesIn_92 : decode cX9_liesIn 92 = .ok (.ireturn, 1) := by decide +kernel
theorem dX9_liesIn_93 : decode cX9_liesIn 93 = .ok (.lload_n 3, 1) := by decide +kernel
theorem dX9_liesIn_94 : decode cX9_liesIn 94 = .ok (.lconst 1, 1) := by decide +kernel
theorem dX9_liesIn_95 : decode cX9_liesIn 95 = .ok (.lcmp, 1) := by decide +kernel
theorem dX9_liesIn_96 : decode cX9_liesIn 96 = .ok (.ifCond .ne 5, 3) := by decide +kernel
theorem dX9_liesIn_99 : decode cX9_liesIn 99 = .ok (.iconst 1, 1) := by decide +kernel
theorem dX9_liesIn_100 : decode cX9_liesIn 100 = .ok (.ireturn, 1) := by decide +kernel
theorem dX9_liesIn_101 : decode cX9_liesIn 101 = .ok (.aload_n 0, 1) := by decide +kernel
theorem dX9_liesIn_102 : decode cX9_liesIn 102 = .ok (.getfield 29, 3) := by decide +kernel
theorem dX9_liesIn_105 : decode cX9_liesIn 105 = .ok (.iload_n 1, 1) := by decide +kernel
theorem dX9_liesIn_106 : decode cX9_liesIn 106 = .ok (.iaload, 1) := by decide +kernel
theorem dX9_liesIn_107 : decode cX9_liesIn 107 = .ok (.ifCond .le 13, 3) := by decide +kernel
theorem dX9_liesIn_110 : decode cX9_liesIn 110 = .ok (.aload_n 0, 1) := by decide +kernel
theorem dX9_liesIn_111 : decode cX9_liesIn 111 = .ok (.getfield 29, 3) := by decide +kernel
theorem dX9_liesIn_114 : decode cX9_liesIn 114 = .ok (.iload_n 1, 1) := by decide +kernel
theorem dX9_liesIn_115 : decode cX9_liesIn 115 = .ok (.iaload, 1) := by decide +kernel
theorem dX9_liesIn_116 : decode cX9_liesIn 116 = .ok (.i2l, 1) := by decide +kernel
theorem dX9_liesIn_117 : decode cX9_liesIn 117 = .ok (.goto 11, 3) := by decide +kernel
theorem dX9_liesIn_120 : decode cX9_liesIn 120 = .ok (.aload_n 0, 1) := by decide +kernel
theorem dX9_liesIn_121 : decode cX9_liesIn 121 = .ok (.getfield 29, 3) := by decide +kernel
theorem dX9_liesIn_124 : decode cX9_liesIn 124 = .ok (.iload_n 1, 1) := by decide +kernel
theorem dX9_liesIn_125 : decode cX9_liesIn 125 = .ok (.iaload, 1) := by decide +kernel
theorem dX9_liesIn_126 : decode cX9_liesIn 126 = .ok (.i2l, 1) := by decide +kernel
theorem dX9_liesIn_127 : decode cX9_liesIn 127 = .ok (.lneg, 1) := by decide +kernel
theorem dX9_liesIn_128 : decode cX9_liesIn 128 = .ok (.lstore 5, 2) := by decide +kernel
theorem dX9_liesIn_130 : decode cX9_liesIn 130 = .ok (.aload_n 0, 1) := by decide +kernel
theorem dX9_liesIn_131 : decode cX9_liesIn 131 = .ok (.getfield 29, 3) := by decide +kernel
theorem dX9_liesIn_134 : decode cX9_liesIn 134 = .ok (.iload_n 2, 1) := by decide +kernel
theorem dX9_liesIn_135 : decode cX9_liesIn 135 = .ok (.iaload, 1) := by decide +kernel
theorem dX9_liesIn_136 : decode cX9_liesIn 136 = .ok (.ifCond .le 13, 3) := by decide +kernel
theorem dX9_liesIn_139 : decode cX9_liesIn 139 = .ok (.aload_n 0, 1) := by decide +kernel
theorem dX9_liesIn_140 : decode cX9_liesIn 140 = .ok (.getfield 29, 3) := by decide +kernel
theorem dX9_liesIn_143 : decode cX9_liesIn 143 = .ok (.iload_n 2, 1) := by decide +kernel
theorem dX9_liesIn_144 : decode cX9_liesIn 144 = .ok (.iaload, 1) := by decide +kernel
theorem dX9_liesIn_145 : decode cX9_liesIn 145 = .ok (.i2l, 1) := by decide +kernel
theorem dX9_liesIn_146 : decode cX9_liesIn 146 = .ok (.goto 11, 3) := by decide +kernel
theorem dX9_liesIn_149 : decode cX9_liesIn 149 = .ok (.aload_n 0, 1) := by decide +kernel
theorem dX9_liesIn_150 : decode cX9_liesIn 150 = .ok (.getfield 29, 3) := by decide +kernel
theorem dX9_liesIn_153 : decode cX9_liesIn 153 = .ok (.iload_n 2, 1) := by decide +kernel
theorem dX9_liesIn_154 : decode cX9_liesIn 154 = .ok (.iaload, 1) := by decide +kernel
theorem dX9_liesIn_155 : decode cX9_liesIn 155 = .ok (.i2l, 1) := by decide +kernel
theorem dX9_liesIn_156 : decode cX9_liesIn 156 = .ok (.lneg, 1) := by decide +kernel
theorem dX9_liesIn_157 : decode cX9_liesIn 157 = .ok (.lstore 7, 2) := by decide +kernel
theorem dX9_liesIn_159 : decode cX9_liesIn 159 = .ok (.lload 5, 2) := by decide +kernel
theorem dX9_liesIn_161 : decode cX9_liesIn 161 = .ok (.lload 7, 2) := by decide +kernel
theorem dX9_liesIn_163 : decode cX9_liesIn 163 = .ok (.lrem, 1) := by decide +kernel
theorem dX9_liesIn_164 : decode cX9_liesIn 164 = .ok (.lconst 0, 1) := by decide +kernel
theorem dX9_liesIn_165 : decode cX9_liesIn 165 = .ok (.lcmp, 1) := by decide +kernel
theorem dX9_liesIn_166 : decode cX9_liesIn 166 = .ok (.ifCond .ne 20, 3) := by decide +kernel
theorem dX9_liesIn_169 : decode cX9_liesIn 169 = .ok (.aload_n 0, 1) := by decide +kernel
theorem dX9_liesIn_170 : decode cX9_liesIn 170 = .ok (.iload_n 2, 1) := by decide +kernel
theorem dX9_liesIn_171 : decode cX9_liesIn 171 = .ok (.aload_n 0, 1) := by decide +kernel
theorem dX9_liesIn_172 : decode cX9_liesIn 172 = .ok (.iload_n 1, 1) := by decide +kernel
theorem dX9_liesIn_173 : decode cX9_liesIn 173 = .ok (.invokevirtual 162, 3) := by decide +kernel
theorem dX9_liesIn_176 : decode cX9_liesIn 176 = .ok (.invokevirtual 120, 3) := by decide +kernel
theorem dX9_liesIn_179 : decode cX9_liesIn 179 = .ok (.ifCond .eq 7, 3) := by decide +kernel
theorem dX9_liesIn_182 : decode cX9_liesIn 182 = .ok (.iconst 1, 1) := by decide +kernel
theorem dX9_liesIn_183 : decode cX9_liesIn 183 = .ok (.goto 4, 3) := by decide +kernel
theorem dX9_liesIn_186 : decode cX9_liesIn 186 = .ok (.iconst 0, 1) := by decide +kernel
theorem dX9_liesIn_187 : decode cX9_liesIn 187 = .ok (.ireturn, 1) := by decide +kernel
theorem dX9_lastOf_0 : decode cX9_lastOf 0 = .ok (.aload_n 0, 1) := by decide +kernel
theorem dX9_lastOf_1 : decode cX9_lastOf 1 = .ok (.getfield 29, 3) := by decide +kernel
theorem dX9_lastOf_4 : decode cX9_lastOf 4 = .ok (.iload_n 1, 1) := by decide +kernel
theorem dX9_lastOf_5 : decode cX9_lastOf 5 = .ok (.iaload, 1) := by decide +kernel
theorem dX9_lastOf_6 : decode cX9_lastOf 6 = .ok (.ifCond .le 13, 3) := by decide +kernel
theorem dX9_lastOf_9 : decode cX9_lastOf 9 = .ok (.aload_n 0, 1) := by decide +kernel
theorem dX9_lastOf_10 : decode cX9_lastOf 10 = .ok (.getfield 29, 3) := by decide +kernel
theorem dX9_lastOf_13 : decode cX9_lastOf 13 = .ok (.iload_n 1, 1) := by decide +kernel
theorem dX9_lastOf_14 : decode cX9_lastOf 14 = .ok (.iaload, 1) := by decide +kernel
theorem dX9_lastOf_15 : decode cX9_lastOf 15 = .ok (.i2l, 1) := by decide +kernel
theorem dX9_lastOf_16 : decode cX9_lastOf 16 = .ok (.goto 11, 3) := by decide +kernel
theorem dX9_lastOf_19 : decode cX9_lastOf 19 = .ok (.aload_n 0, 1) := by decide +kernel
theorem dX9_lastOf_20 : decode cX9_lastOf 20 = .ok (.getfield 29, 3) := by decide +kernel
theorem dX9_lastOf_23 : decode cX9_lastOf 23 = .ok (.iload_n 1, 1) := by decide +kernel
theorem dX9_lastOf_24 : decode cX9_lastOf 24 = .ok (.iaload, 1) := by decide +kernel
theorem dX9_lastOf_25 : decode cX9_lastOf 25 = .ok (.i2l, 1) := by decide +kernel
theorem dX9_lastOf_26 : decode cX9_lastOf 26 = .ok (.lneg, 1) := by decide +kernel
theorem dX9_lastOf_27 : decode cX9_lastOf 27 = .ok (.lstore_n 2, 1) := by decide +kernel
theorem dX9_lastOf_28 : decode cX9_lastOf 28 = .ok (.aload_n 0, 1) := by decide +kernel
theorem dX9_lastOf_29 : decode cX9_lastOf 29 = .ok (.getfield 26, 3) := by decide +kernel
theorem dX9_lastOf_32 : decode cX9_lastOf 32 = .ok (.iload_n 1, 1) := by decide +kernel
theorem dX9_lastOf_33 : decode cX9_lastOf 33 = .ok (.laload, 1) := by decide +kernel
theorem dX9_lastOf_34 : decode cX9_lastOf 34 = .ok (.aload_n 0, 1) := by decide +kernel
theorem dX9_lastOf_35 : decode cX9_lastOf 35 = .ok (.getfield 23, 3) := by decide +kernel
theorem dX9_lastOf_38 : decode cX9_lastOf 38 = .ok (.iload_n 1, 1) := by decide +kernel
theorem dX9_lastOf_39 : decode cX9_lastOf 39 = .ok (.laload, 1) := by decide +kernel
theorem dX9_lastOf_40 : decode cX9_lastOf 40 = .ok (.lload_n 2, 1) := by decide +kernel
theorem dX9_lastOf_41 : decode cX9_lastOf 41 = .ok (.invokestatic 94, 3) := by decide +kernel
theorem dX9_lastOf_44 : decode cX9_lastOf 44 = .ok (.lstore 4, 2) := by decide +kernel
theorem dX9_lastOf_46 : decode cX9_lastOf 46 = .ok (.aload_n 0, 1) := by decide +kernel
theorem dX9_lastOf_47 : decode cX9_lastOf 47 = .ok (.getfield 29, 3) := by decide +kernel
theorem dX9_lastOf_50 : decode cX9_lastOf 50 = .ok (.iload_n 1, 1) := by decide +kernel
theorem dX9_lastOf_51 : decode cX9_lastOf 51 = .ok (.iaload, 1) := by decide +kernel
theorem dX9_lastOf_52 : decode cX9_lastOf 52 = .ok (.ifCond .le 15, 3) := by decide +kernel
theorem dX9_lastOf_55 : decode cX9_lastOf 55 = .ok (.aload_n 0, 1) := by decide +kernel
theorem dX9_lastOf_56 : decode cX9_lastOf 56 = .ok (.getfield 26, 3) := by decide +kernel
theorem dX9_lastOf_59 : decode cX9_lastOf 59 = .ok (.iload_n 1, 1) := by decide +kernel
theorem dX9_lastOf_60 : decode cX9_lastOf 60 = .ok (.laload, 1) := by decide +kernel
theorem dX9_lastOf_61 : decode cX9_lastOf 61 = .ok (.lload 4, 2) := by decide +kernel
theorem dX9_lastOf_63 : decode cX9_lastOf 63 = .ok (.lsub, 1) := by decide +kernel
theorem dX9_lastOf_64 : decode cX9_lastOf 64 = .ok (.goto 26, 3) := by decide +kernel
theorem dX9_lastOf_67 : decode cX9_lastOf 67 = .ok (.aload_n 0, 1) := by decide +kernel
theorem dX9_lastOf_68 : decode cX9_lastOf 68 = .ok (.getfield 26, 3) := by decide +kernel
theorem dX9_lastOf_71 : decode cX9_lastOf 71 = .ok (.iload_n 1, 1) := by decide +kernel
theorem dX9_lastOf_72 : decode cX9_lastOf 72 = .ok (.laload, 1) := by decide +kernel
theorem dX9_lastOf_73 : decode cX9_lastOf 73 = .ok (.aload_n 0, 1) := by decide +kernel
theorem dX9_lastOf_74 : decode cX9_lastOf 74 = .ok (.getfield 23, 3) := by decide +kernel
theorem dX9_lastOf_77 : decode cX9_lastOf 77 = .ok (.iload_n 1, 1) := by decide +kernel
theorem dX9_lastOf_78 : decode cX9_lastOf 78 = .ok (.laload, 1) := by decide +kernel
theorem dX9_lastOf_79 : decode cX9_lastOf 79 = .ok (.aload_n 0, 1) := by decide +kernel
theorem dX9_lastOf_80 : decode cX9_lastOf 80 = .ok (.getfield 26, 3) := by decide +kernel
theorem dX9_lastOf_83 : decode cX9_lastOf 83 = .ok (.iload_n 1, 1) := by decide +kernel
theorem dX9_lastOf_84 : decode cX9_lastOf 84 = .ok (.laload, 1) := by decide +kernel
theorem dX9_lastOf_85 : decode cX9_lastOf 85 = .ok (.lload_n 2, 1) := by decide +kernel
theorem dX9_lastOf_86 : decode cX9_lastOf 86 = .ok (.invokestatic 94, 3) := by decide +kernel
theorem dX9_lastOf_89 : decode cX9_lastOf 89 = .ok (.ladd, 1) := by decide +kernel
theorem dX9_lastOf_90 : decode cX9_lastOf 90 = .ok (.lreturn, 1) := by decide +kernel
theorem dX9_within_0 : decode cX9_within 0 = .ok (.aload_n 0, 1) := by decide +kernel
theorem dX9_within_1 : decode cX9_within 1 = .ok (.iload_n 1, 1) := by decide +kernel
theorem dX9_within_2 : decode cX9_within 2 = .ok (.invokevirtual 101, 3) := by decide +kernel
theorem dX9_within_5 : decode cX9_within 5 = .ok (.ifCond .ne 11, 3) := by decide +kernel
theorem dX9_within_8 : decode cX9_within 8 = .ok (.aload_n 0, 1) := by decide +kernel
theorem dX9_within_9 : decode cX9_within 9 = .ok (.iload_n 2, 1) := by decide +kernel
theorem dX9_within_10 : decode cX9_within 10 = .ok (.invokevirtual 101, 3) := by decide +kernel
theorem dX9_within_13 : decode cX9_within 13 = .ok (.ifCond .eq 6, 3) := by decide +kernel
theorem dX9_within_16 : decode cX9_within 16 = .ok (.bipush (-101), 2) := by decide +kernel
theorem dX9_within_18 : decode cX9_within 18 = .ok (.ireturn, 1) := by decide +kernel
theorem dX9_within_19 : decode cX9_within 19 = .ok (.aload_n 0, 1) := by decide +kernel
theorem dX9_within_20 : decode cX9_within 20 = .ok (.getfield 16, 3) := by decide +kernel
theorem dX9_within_23 : decode cX9_within 23 = .ok (.iload_n 1, 1) := by decide +kernel
theorem dX9_within_24 : decode cX9_within 24 = .ok (.iaload, 1) := by decide +kernel
theorem dX9_within_25 : decode cX9_within 25 = .ok (.aload_n 0, 1) := by decide +kernel
theorem dX9_within_26 : decode cX9_within 26 = .ok (.getfield 16, 3) := by decide +kernel
theorem dX9_within_29 : decode cX9_within 29 = .ok (.iload_n 2, 1) := by decide +kernel
theorem dX9_within_30 : decode cX9_within 30 = .ok (.iaload, 1) := by decide +kernel
theorem dX9_within_31 : decode cX9_within 31 = .ok (.if_icmp .ne 7, 3) := by decide +kernel
theorem dX9_within_34 : decode cX9_within 34 = .ok (.iconst 1, 1) := by decide +kernel
theorem dX9_within_35 : decode cX9_within 35 = .ok (.goto 4, 3) := by decide +kernel
theorem dX9_within_38 : decode cX9_within 38 = .ok (.iconst 0, 1) := by decide +kernel
theorem dX9_within_39 : decode cX9_within 39 = .ok (.istore_n 3, 1) := by decide +kernel
theorem dX9_within_40 : decode cX9_within 40 = .ok (.iconst 0, 1) := by decide +kernel
theorem dX9_within_41 : decode cX9_within 41 = .ok (.istore 4, 2) := by decide +kernel
theorem dX9_within_43 : decode cX9_within 43 = .ok (.iload 4, 2) := by decide +kernel
theorem dX9_within_45 : decode cX9_within 45 = .ok (.aload_n 0, 1) := by decide +kernel
theorem dX9_within_46 : decode cX9_within 46 = .ok (.getfield 16, 3) := by decide +kernel
theorem dX9_within_49 : decode cX9_within 49 = .ok (.iload_n 1, 1) := by decide +kernel
theorem dX9_within_50 : decode cX9_within 50 = .ok (.iaload, 1) := by decide +kernel
theorem dX9_within_51 : decode cX9_within 51 = .ok (.if_icmp .ge 53, 3) := by decide +kernel
theorem dX9_within_54 : decode cX9_within 54 = .ok (.iload_n 3, 1) := by decide +kernel
theorem dX9_within_55 : decode cX9_within 55 = .ok (.ifCond .eq 49, 3) := by decide +kernel
theorem dX9_within_58 : decode cX9_within 58 = .ok (.aload_n 0, 1) := by decide +kernel
theorem dX9_within_59 : decode cX9_within 59 = .ok (.getfield 19, 3) := by decide +kernel
theorem dX9_within_62 : decode cX9_within 62 = .ok (.iload_n 1, 1) := by decide +kernel
theorem dX9_within_63 : decode cX9_within 63 = .ok (.laload, 1) := by decide +kernel
theorem dX9_within_64 : decode cX9_within 64 = .ok (.lconst 0, 1) := by decide +kernel
theorem dX9_within_65 : decode cX9_within 65 = .ok (.lcmp, 1) := by decide +kernel
theorem dX9_within_66 : decode cX9_within 66 = .ok (.ifCond .eq 38, 3) := by decide +kernel
theorem dX9_within_69 : decode cX9_within 69 = .ok (.aload_n 0, 1) := by decide +kernel
theorem dX9_within_70 : decode cX9_within 70 = .ok (.aload_n 0, 1) := by decide +kernel
theorem dX9_within_71 : decode cX9_within 71 = .ok (.getfield 32, 3) := by decide +kernel
theorem dX9_within_74 : decode cX9_within 74 = .ok (.bipush 8, 2) := by decide +kernel
theorem dX9_within_76 : decode cX9_within 76 = .ok (.iload_n 1, 1) := by decide +kernel
theorem dX9_within_77 : decode cX9_within 77 = .ok (.imul, 1) := by decide +kernel
theorem dX9_within_78 : decode cX9_within 78 = .ok (.iload 4, 2) := by decide +kernel
theorem dX9_within_80 : decode cX9_within 80 = .ok (.iadd, 1) := by decide +kernel
theorem dX9_within_81 : decode cX9_within 81 = .ok (.iaload, 1) := by decide +kernel
theorem dX9_within_82 : decode cX9_within 82 = .ok (.aload_n 0, 1) := by decide +kernel
theorem dX9_within_83 : decode cX9_within 83 = .ok (.getfield 32, 3) := by decide +kernel
theorem dX9_within_86 : decode cX9_within 86 = .ok (.bipush 8, 2) := by decide +kernel
theorem dX9_within_88 : decode cX9_within 88 = .ok (.iload_n 2, 1) := by decide +kernel
theorem dX9_within_89 : decode cX9_within 89 = .ok (.imul, 1) := by decide +kernel
theorem dX9_within_90 : decode cX9_within 90 = .ok (.iload 4, 2) := by decide +kernel
theorem dX9_within_92 : decode cX9_within 92 = .ok (.iadd, 1) := by decide +kernel
theorem dX9_within_93 : decode cX9_within 93 = .ok (.iaload, 1) := by decide +kernel
theorem dX9_within_94 : decode cX9_within 94 = .ok (.invokevirtual 165, 3) := by decide +kernel
theorem dX9_within_97 : decode cX9_within 97 = .ok (.istore_n 3, 1) := by decide +kernel
theorem dX9_within_98 : decode cX9_within 98 = .ok (.iinc 4 1, 3) := by decide +kernel
theorem dX9_within_101 : decode cX9_within 101 = .ok (.goto (-58), 3) := by decide +kernel
theorem dX9_within_104 : decode cX9_within 104 = .ok (.iload_n 3, 1) := by decide +kernel
theorem dX9_within_105 : decode cX9_within 105 = .ok (.ifCond .eq 7, 3) := by decide +kernel
theorem dX9_within_108 : decode cX9_within 108 = .ok (.iconst 1, 1) := by decide +kernel
theorem dX9_within_109 : decode cX9_within 109 = .ok (.goto 4, 3) := by decide +kernel
theorem dX9_within_112 : decode cX9_within 112 = .ok (.iconst 0, 1) := by decide +kernel
theorem dX9_within_113 : decode cX9_within 113 = .ok (.ireturn, 1) := by decide +kernel
theorem dX9_array_0 : decode cX9_array 0 = .ok (.aload_n 0, 1) := by decide +kernel
theorem dX9_array_1 : decode cX9_array 1 = .ok (.iconst 0, 1) := by decide +kernel
theorem dX9_array_2 : decode cX9_array 2 = .ok (.putfield 65, 3) := by decide +kernel
theorem dX9_array_5 : decode cX9_array 5 = .ok (.aload_n 0, 1) := by decide +kernel
theorem dX9_array_6 : decode cX9_array 6 = .ok (.iload_n 1, 1) := by decide +kernel
theorem dX9_array_7 : decode cX9_array 7 = .ok (.invokevirtual 101, 3) := by decide +kernel
theorem dX9_array_10 : decode cX9_array 10 = .ok (.ifCond .eq 6, 3) := by decide +kernel
theorem dX9_array_13 : decode cX9_array 13 = .ok (.bipush (-101), 2) := by decide +kernel
theorem dX9_array_15 : decode cX9_array 15 = .ok (.ireturn, 1) := by decide +kernel
theorem dX9_array_16 : decode cX9_array 16 = .ok (.aload_n 0, 1) := by decide +kernel
theorem dX9_array_17 : decode cX9_array 17 = .ok (.getfield 62, 3) := by decide +kernel
theorem dX9_array_20 : decode cX9_array 20 = .ok (.bipush 6, 2) := by decide +kernel
theorem dX9_array_22 : decode cX9_array 22 = .ok (.if_icmp .ne 6, 3) := by decide +kernel
theorem dX9_array_25 : decode cX9_array 25 = .ok (.bipush (-104), 2) := by decide +kernel
theorem dX9_array_27 : decode cX9_array 27 = .ok (.ireturn, 1) := by decide +kernel
theorem dX9_array_28 : decode cX9_array 28 = .ok (.aload_n 0, 1) := by decide +kernel
theorem dX9_array_29 : decode cX9_array 29 = .ok (.aload_n 0, 1) := by decide +kernel
theorem dX9_array_30 : decode cX9_array 30 = .ok (.getfield 19, 3) := by decide +kernel
theorem dX9_array_33 : decode cX9_array 33 = .ok (.iload_n 1, 1) := by decide +kernel
theorem dX9_array_34 : decode cX9_array 34 = .ok (.laload, 1) := by decide +kernel
theorem dX9_array_35 : decode cX9_array 35 = .ok (.ldc2_w 68, 3) := by decide +kernel
theorem dX9_array_38 : decode cX9_array 38 = .ok (.lcmp, 1) := by decide +kernel
theorem dX9_array_39 : decode cX9_array 39 = .ok (.ifCond .ne 7, 3) := by decide +kernel
theorem dX9_array_42 : decode cX9_array 42 = .ok (.iconst 1, 1) := by decide +kernel
theorem dX9_array_43 : decode cX9_array 43 = .ok (.goto 21, 3) := by decide +kernel
theorem dX9_array_46 : decode cX9_array 46 = .ok (.aload_n 0, 1) := by decide +kernel
theorem dX9_array_47 : decode cX9_array 47 = .ok (.getfield 19, 3) := by decide +kernel
theorem dX9_array_50 : decode cX9_array 50 = .ok (.iload_n 1, 1) := by decide +kernel
theorem dX9_array_51 : decode cX9_array 51 = .ok (.laload, 1) := by decide +kernel
theorem dX9_array_52 : decode cX9_array 52 = .ok (.ldc2_w 169, 3) := by decide +kernel
theorem dX9_array_55 : decode cX9_array 55 = .ok (.lcmp, 1) := by decide +kernel
theorem dX9_array_56 : decode cX9_array 56 = .ok (.ifCond .le 7, 3) := by decide +kernel
theorem dX9_array_59 : decode cX9_array 59 = .ok (.iconst 2, 1) := by decide +kernel
theorem dX9_array_60 : decode cX9_array 60 = .ok (.goto 4, 3) := by decide +kernel
theorem dX9_array_63 : decode cX9_array 63 = .ok (.iconst 0, 1) := by decide +kernel
theorem dX9_array_64 : decode cX9_array 64 = .ok (.putfield 65, 3) := by decide +kernel
theorem dX9_array_67 : decode cX9_array 67 = .ok (.aload_n 0, 1) := by decide +kernel
theorem dX9_array_68 : decode cX9_array 68 = .ok (.getfield 65, 3) := by decide +kernel
theorem dX9_array_71 : decode cX9_array 71 = .ok (.ifCond .le 5, 3) := by decide +kernel
theorem dX9_array_74 : decode cX9_array 74 = .ok (.iconst 0, 1) := by decide +kernel
theorem dX9_array_75 : decode cX9_array 75 = .ok (.ireturn, 1) := by decide +kernel
theorem dX9_array_76 : decode cX9_array 76 = .ok (.iconst 0, 1) := by decide +kernel
theorem dX9_array_77 : decode cX9_array 77 = .ok (.istore_n 2, 1) := by decide +kernel
theorem dX9_array_78 : decode cX9_array 78 = .ok (.iload_n 2, 1) := by decide +kernel
theorem dX9_array_79 : decode cX9_array 79 = .ok (.sipush 400, 3) := by decide +kernel
theorem dX9_array_82 : decode cX9_array 82 = .ok (.if_icmp .ge 25, 3) := by decide +kernel
theorem dX9_array_85 : decode cX9_array 85 = .ok (.aload_n 0, 1) := by decide +kernel
theorem dX9_array_86 : decode cX9_array 86 = .ok (.getfield 51, 3) := by decide +kernel
theorem dX9_array_89 : decode cX9_array 89 = .ok (.sipush 400, 3) := by decide +kernel
theorem dX9_array_92 : decode cX9_array 92 = .ok (.aload_n 0, 1) := by decide +kernel
theorem dX9_array_93 : decode cX9_array 93 = .ok (.getfield 62, 3) := by decide +kernel
theorem dX9_array_96 : decode cX9_array 96 = .ok (.imul, 1) := by decide +kernel
theorem dX9_array_97 : decode cX9_array 97 = .ok (.iload_n 2, 1) := by decide +kernel
theorem dX9_array_98 : decode cX9_array 98 = .ok (.iadd, 1) := by decide +kernel
theorem dX9_array_99 : decode cX9_array 99 = .ok (.iconst 0, 1) := by decide +kernel
theorem dX9_array_100 : decode cX9_array 100 = .ok (.iastore, 1) := by decide +kernel
theorem dX9_array_101 : decode cX9_array 101 = .ok (.iinc 2 1, 3) := by decide +kernel
theorem dX9_array_104 : decode cX9_array 104 = .ok (.goto (-26), 3) := by decide +kernel
theorem dX9_array_107 : decode cX9_array 107 = .ok (.aload_n 0, 1) := by decide +kernel
theorem dX9_array_108 : decode cX9_array 108 = .ok (.getfield 48, 3) := by decide +kernel
theorem dX9_array_111 : decode cX9_array 111 = .ok (.aload_n 0, 1) := by decide +kernel
theorem dX9_array_112 : decode cX9_array 112 = .ok (.getfield 62, 3) := by decide +kernel
theorem dX9_array_115 : decode cX9_array 115 = .ok (.iload_n 1, 1) := by decide +kernel
theorem dX9_array_116 : decode cX9_array 116 = .ok (.iastore, 1) := by decide +kernel
theorem dX9_array_117 : decode cX9_array 117 = .ok (.aload_n 0, 1) := by decide +kernel
theorem dX9_array_118 : decode cX9_array 118 = .ok (.dup, 1) := by decide +kernel
theorem dX9_array_119 : decode cX9_array 119 = .ok (.getfield 62, 3) := by decide +kernel
theorem dX9_array_122 : decode cX9_array 122 = .ok (.iconst 1, 1) := by decide +kernel
theorem dX9_array_123 : decode cX9_array 123 = .ok (.iadd, 1) := by decide +kernel
theorem dX9_array_124 : decode cX9_array 124 = .ok (.putfield 62, 3) := by decide +kernel
theorem dX9_array_127 : decode cX9_array 127 = .ok (.aload_n 0, 1) := by decide +kernel
theorem dX9_array_128 : decode cX9_array 128 = .ok (.getfield 62, 3) := by decide +kernel
theorem dX9_array_131 : decode cX9_array 131 = .ok (.iconst 1, 1) := by decide +kernel
theorem dX9_array_132 : decode cX9_array 132 = .ok (.isub, 1) := by decide +kernel
theorem dX9_array_133 : decode cX9_array 133 = .ok (.ireturn, 1) := by decide +kernel
theorem dX9_cellOf_0 : decode cX9_cellOf 0 = .ok (.aload_n 0, 1) := by decide +kernel
theorem dX9_cellOf_1 : decode cX9_cellOf 1 = .ok (.aload_n 0, 1) := by decide +kernel
theorem dX9_cellOf_2 : decode cX9_cellOf 2 = .ok (.getfield 48, 3) := by decide +kernel
theorem dX9_cellOf_5 : decode cX9_cellOf 5 = .ok (.iload_n 1, 1) := by decide +kernel
theorem dX9_cellOf_6 : decode cX9_cellOf 6 = .ok (.iaload, 1) := by decide +kernel
theorem dX9_cellOf_7 : decode cX9_cellOf 7 = .ok (.invokevirtual 147, 3) := by decide +kernel
theorem dX9_cellOf_10 : decode cX9_cellOf 10 = .ok (.ifCond .eq 23, 3) := by decide +kernel
theorem dX9_cellOf_13 : decode cX9_cellOf 13 = .ok (.sipush 400, 3) := by decide +kernel
theorem dX9_cellOf_16 : decode cX9_cellOf 16 = .ok (.iload_n 1, 1) := by decide +kernel
theorem dX9_cellOf_17 : decode cX9_cellOf 17 = .ok (.imul, 1) := by decide +kernel
theorem dX9_cellOf_18 : decode cX9_cellOf 18 = .ok (.aload_n 0, 1) := by decide +kernel
theorem dX9_cellOf_19 : decode cX9_cellOf 19 = .ok (.aload_n 0, 1) := by decide +kernel
theorem dX9_cellOf_20 : decode cX9_cellOf 20 = .ok (.getfield 48, 3) := by decide +kernel
theorem dX9_cellOf_23 : decode cX9_cellOf 23 = .ok (.iload_n 1, 1) := by decide +kernel
theorem dX9_cellOf_24 : decode cX9_cellOf 24 = .ok (.iaload, 1) := by decide +kernel
theorem dX9_cellOf_25 : decode cX9_cellOf 25 = .ok (.invokevirtual 150, 3) := by decide +kernel
theorem dX9_cellOf_28 : decode cX9_cellOf 28 = .ok (.l2i, 1) := by decide +kernel
theorem dX9_cellOf_29 : decode cX9_cellOf 29 = .ok (.iadd, 1) := by decide +kernel
theorem dX9_cellOf_30 : decode cX9_cellOf 30 = .ok (.goto 4, 3) := by decide +kernel
theorem dX9_cellOf_33 : decode cX9_cellOf 33 = .ok (.iconst (-1), 1) := by decide +kernel
theorem dX9_cellOf_34 : decode cX9_cellOf 34 = .ok (.ireturn, 1) := by decide +kernel
theorem dX9_put_0 : decode cX9_put 0 = .ok (.aload_n 0, 1) := by decide +kernel
theorem dX9_put_1 : decode cX9_put 1 = .ok (.iconst 0, 1) := by decide +kernel
theorem dX9_put_2 : decode cX9_put 2 = .ok (.putfield 65, 3) := by decide +kernel
theorem dX9_put_5 : decode cX9_put 5 = .ok (.aload_n 0, 1) := by decide +kernel
theorem dX9_put_6 : decode cX9_put 6 = .ok (.iload_n 1, 1) := by decide +kernel
theorem dX9_put_7 : decode cX9_put 7 = .ok (.invokevirtual 171, 3) := by decide +kernel
theorem dX9_put_10 : decode cX9_put 10 = .ok (.ifCond .eq 6, 3) := by decide +kernel
theorem dX9_put_13 : decode cX9_put 13 = .ok (.bipush (-101), 2) := by decide +kernel
theorem dX9_put_15 : decode cX9_put 15 = .ok (.ireturn, 1) := by decide +kernel
theorem dX9_put_16 : decode cX9_put 16 = .ok (.aload_n 0, 1) := by decide +kernel
theorem dX9_put_17 : decode cX9_put 17 = .ok (.iload_n 1, 1) := by decide +kernel
theorem dX9_put_18 : decode cX9_put 18 = .ok (.invokevirtual 174, 3) := by decide +kernel
theorem dX9_put_21 : decode cX9_put 21 = .ok (.istore_n 3, 1) := by decide +kernel
theorem dX9_put_22 : decode cX9_put 22 = .ok (.iload_n 3, 1) := by decide +kernel
theorem dX9_put_23 : decode cX9_put 23 = .ok (.ifCond .ge 10, 3) := by decide +kernel
theorem dX9_put_26 : decode cX9_put 26 = .ok (.aload_n 0, 1) := by decide +kernel
theorem dX9_put_27 : decode cX9_put 27 = .ok (.iconst 1, 1) := by decide +kernel
theorem dX9_put_28 : decode cX9_put 28 = .ok (.putfield 65, 3) := by decide +kernel
theorem dX9_put_31 : decode cX9_put 31 = .ok (.iconst 0, 1) := by decide +kernel
theorem dX9_put_32 : decode cX9_put 32 = .ok (.ireturn, 1) := by decide +kernel
theorem dX9_put_33 : decode cX9_put 33 = .ok (.aload_n 0, 1) := by decide +kernel
theorem dX9_put_34 : decode cX9_put 34 = .ok (.getfield 51, 3) := by decide +kernel
theorem dX9_put_37 : decode cX9_put 37 = .ok (.iload_n 3, 1) := by decide +kernel
theorem dX9_put_38 : decode cX9_put 38 = .ok (.iaload, 1) := by decide +kernel
theorem dX9_put_39 : decode cX9_put 39 = .ok (.istore 4, 2) := by decide +kernel
theorem dX9_put_41 : decode cX9_put 41 = .ok (.aload_n 0, 1) := by decide +kernel
theorem dX9_put_42 : decode cX9_put 42 = .ok (.getfield 51, 3) := by decide +kernel
theorem dX9_put_45 : decode cX9_put 45 = .ok (.iload_n 3, 1) := by decide +kernel
theorem dX9_put_46 : decode cX9_put 46 = .ok (.iload_n 2, 1) := by decide +kernel
theorem dX9_put_47 : decode cX9_put 47 = .ok (.iastore, 1) := by decide +kernel
theorem dX9_put_48 : decode cX9_put 48 = .ok (.iload 4, 2) := by decide +kernel
theorem dX9_put_50 : decode cX9_put 50 = .ok (.ireturn, 1) := by decide +kernel
theorem dX9_at_0 : decode cX9_at 0 = .ok (.aload_n 0, 1) := by decide +kernel
theorem dX9_at_1 : decode cX9_at 1 = .ok (.iconst 0, 1) := by decide +kernel
theorem dX9_at_2 : decode cX9_at 2 = .ok (.putfield 65, 3) := by decide +kernel
theorem dX9_at_5 : decode cX9_at 5 = .ok (.aload_n 0, 1) := by decide +kernel
theorem dX9_at_6 : decode cX9_at 6 = .ok (.iload_n 1, 1) := by decide +kernel
theorem dX9_at_7 : decode cX9_at 7 = .ok (.invokevirtual 171, 3) := by decide +kernel
theorem dX9_at_10 : decode cX9_at 10 = .ok (.ifCond .eq 6, 3) := by decide +kernel
theorem dX9_at_13 : decode cX9_at 13 = .ok (.bipush (-101), 2) := by decide +kernel
theorem dX9_at_15 : decode cX9_at 15 = .ok (.ireturn, 1) := by decide +kernel
theorem dX9_at_16 : decode cX9_at 16 = .ok (.aload_n 0, 1) := by decide +kernel
theorem dX9_at_17 : decode cX9_at 17 = .ok (.iload_n 1, 1) := by decide +kernel
theorem dX9_at_18 : decode cX9_at 18 = .ok (.invokevirtual 174, 3) := by decide +kernel
theorem dX9_at_21 : decode cX9_at 21 = .ok (.istore_n 2, 1) := by decide +kernel
theorem dX9_at_22 : decode cX9_at 22 = .ok (.aload_n 0, 1) := by decide +kernel
theorem dX9_at_23 : decode cX9_at 23 = .ok (.iload_n 2, 1) := by decide +kernel
theorem dX9_at_24 : decode cX9_at 24 = .ok (.ifCond .ge 7, 3) := by decide +kernel
theorem dX9_at_27 : decode cX9_at 27 = .ok (.iconst 1, 1) := by decide +kernel
theorem dX9_at_28 : decode cX9_at 28 = .ok (.goto 4, 3) := by decide +kernel
theorem dX9_at_31 : decode cX9_at 31 = .ok (.iconst 0, 1) := by decide +kernel
theorem dX9_at_32 : decode cX9_at 32 = .ok (.putfield 65, 3) := by decide +kernel
theorem dX9_at_35 : decode cX9_at 35 = .ok (.iload_n 2, 1) := by decide +kernel
theorem dX9_at_36 : decode cX9_at 36 = .ok (.ifCond .ge 7, 3) := by decide +kernel
theorem dX9_at_39 : decode cX9_at 39 = .ok (.iconst 0, 1) := by decide +kernel
theorem dX9_at_40 : decode cX9_at 40 = .ok (.goto 9, 3) := by decide +kernel
theorem dX9_at_43 : decode cX9_at 43 = .ok (.aload_n 0, 1) := by decide +kernel
theorem dX9_at_44 : decode cX9_at 44 = .ok (.getfield 51, 3) := by decide +kernel
theorem dX9_at_47 : decode cX9_at 47 = .ok (.iload_n 2, 1) := by decide +kernel
theorem dX9_at_48 : decode cX9_at 48 = .ok (.iaload, 1) := by decide +kernel
theorem dX9_at_49 : decode cX9_at 49 = .ok (.ireturn, 1) := by decide +kernel
theorem dX9_sum_0 : decode cX9_sum 0 = .ok (.aload_n 0, 1) := by decide +kernel
theorem dX9_sum_1 : decode cX9_sum 1 = .ok (.iload_n 1, 1) := by decide +kernel
theorem dX9_sum_2 : decode cX9_sum 2 = .ok (.invokevirtual 171, 3) := by decide +kernel
theorem dX9_sum_5 : decode cX9_sum 5 = .ok (.ifCond .eq 7, 3) := by decide +kernel
theorem dX9_sum_8 : decode cX9_sum 8 = .ok (.ldc2_w 116, 3) := by decide +kernel
theorem dX9_sum_11 : decode cX9_sum 11 = .ok (.lreturn, 1) := by decide +kernel
theorem dX9_sum_12 : decode cX9_sum 12 = .ok (.aload_n 0, 1) := by decide +kernel
theorem dX9_sum_13 : decode cX9_sum 13 = .ok (.getfield 48, 3) := by decide +kernel
theorem dX9_sum_16 : decode cX9_sum 16 = .ok (.iload_n 1, 1) := by decide +kernel
theorem dX9_sum_17 : decode cX9_sum 17 = .ok (.iaload, 1) := by decide +kernel
theorem dX9_sum_18 : decode cX9_sum 18 = .ok (.istore 5, 2) := by decide +kernel
theorem dX9_sum_20 : decode cX9_sum 20 = .ok (.iload_n 2, 1) := by decide +kernel
theorem dX9_sum_21 : decode cX9_sum 21 = .ok (.i2l, 1) := by decide +kernel
theorem dX9_sum_22 : decode cX9_sum 22 = .ok (.lconst 0, 1) := by decide +kernel
theorem dX9_sum_23 : decode cX9_sum 23 = .ok (.aload_n 0, 1) := by decide +kernel
theorem dX9_sum_24 : decode cX9_sum 24 = .ok (.getfield 16, 3) := by decide +kernel
theorem dX9_sum_27 : decode cX9_sum 27 = .ok (.iload 5, 2) := by decide +kernel
theorem dX9_sum_29 : decode cX9_sum 29 = .ok (.iaload, 1) := by decide +kernel
theorem dX9_sum_30 : decode cX9_sum 30 = .ok (.iconst 1, 1) := by decide +kernel
theorem dX9_sum_31 : decode cX9_sum 31 = .ok (.isub, 1) := by decide +kernel
theorem dX9_sum_32 : decode cX9_sum 32 = .ok (.i2l, 1) := by decide +kernel
theorem dX9_sum_33 : decode cX9_sum 33 = .ok (.invokestatic 58, 3) := by decide +kernel
theorem dX9_sum_36 : decode cX9_sum 36 = .ok (.ifCond .ne 7, 3) := by decide +kernel
theorem dX9_sum_39 : decode cX9_sum 39 = .ok (.ldc2_w 178, 3) := by decide +kernel
theorem dX9_sum_42 : decode cX9_sum 42 = .ok (.lreturn, 1) := by decide +kernel
theorem dX9_sum_43 : decode cX9_sum 43 = .ok (.lconst 0, 1) := by decide +kernel
theorem dX9_sum_44 : decode cX9_sum 44 = .ok (.lstore 6, 2) := by decide +kernel
theorem dX9_sum_46 : decode cX9_sum 46 = .ok (.iconst 0, 1) := by decide +kernel
theorem dX9_sum_47 : decode cX9_sum 47 = .ok (.istore 8, 2) := by decide +kernel
theorem dX9_sum_49 : decode cX9_sum 49 = .ok (.iload 8, 2) := by decide +kernel
theorem dX9_sum_51 : decode cX9_sum 51 = .ok (.i2l, 1) := by decide +kernel
theorem dX9_sum_52 : decode cX9_sum 52 = .ok (.aload_n 0, 1) := by decide +kernel
theorem dX9_sum_53 : decode cX9_sum 53 = .ok (.getfield 19, 3) := by decide +kernel
theorem dX9_sum_56 : decode cX9_sum 56 = .ok (.iload 5, 2) := by decide +kernel
theorem dX9_sum_58 : decode cX9_sum 58 = .ok (.laload, 1) := by decide +kernel
theorem dX9_sum_59 : decode cX9_sum 59 = .ok (.lcmp, 1) := by decide +kernel
theorem dX9_sum_60 : decode cX9_sum 60 = .ok (.ifCond .ge 56, 3) := by decide +kernel
theorem dX9_sum_63 : decode cX9_sum 63 = .ok (.aload_n 0, 1) := by decide +kernel
theorem dX9_sum_64 : decode cX9_sum 64 = .ok (.iload 5, 2) := by decide +kernel
theorem dX9_sum_66 : decode cX9_sum 66 = .ok (.iload 8, 2) := by decide +kernel
theorem dX9_sum_68 : decode cX9_sum 68 = .ok (.i2l, 1) := by decide +kernel
theorem dX9_sum_69 : decode cX9_sum 69 = .ok (.aload_n 0, 1) := by decide +kernel
theorem dX9_sum_70 : decode cX9_sum 70 = .ok (.getfield 45, 3) := by decide +kernel
theorem dX9_sum_73 : decode cX9_sum 73 = .ok (.invokevirtual 156, 3) := by decide +kernel
theorem dX9_sum_76 : decode cX9_sum 76 = .ok (.lload 6, 2) := by decide +kernel
theorem dX9_sum_78 : decode cX9_sum 78 = .ok (.aload_n 0, 1) := by decide +kernel
theorem dX9_sum_79 : decode cX9_sum 79 = .ok (.getfield 45, 3) := by decide +kernel
theorem dX9_sum_82 : decode cX9_sum 82 = .ok (.iload_n 2, 1) := by decide +kernel
theorem dX9_sum_83 : decode cX9_sum 83 = .ok (.laload, 1) := by decide +kernel
theorem dX9_sum_84 : decode cX9_sum 84 = .ok (.lload_n 3, 1) := by decide +kernel
theorem dX9_sum_85 : decode cX9_sum 85 = .ok (.lcmp, 1) := by decide +kernel
theorem dX9_sum_86 : decode cX9_sum 86 = .ok (.ifCond .ne 20, 3) := by decide +kernel
theorem dX9_sum_89 : decode cX9_sum 89 = .ok (.aload_n 0, 1) := by decide +kernel
theorem dX9_sum_90 : decode cX9_sum 90 = .ok (.getfield 51, 3) := by decide +kernel
theorem dX9_sum_93 : decode cX9_sum 93 = .ok (.sipush 400, 3) := by decide +kernel
theorem dX9_sum_96 : decode cX9_sum 96 = .ok (.iload_n 1, 1) := by decide +kernel
theorem dX9_sum_97 : decode cX9_sum 97 = .ok (.imul, 1) := by decide +kernel
theorem dX9_sum_98 : decode cX9_sum 98 = .ok (.iload 8, 2) := by decide +kernel
theorem dX9_sum_100 : decode cX9_sum 100 = .ok (.iadd, 1) := by decide +kernel
theorem dX9_sum_101 : decode cX9_sum 101 = .ok (.iaload, 1) := by decide +kernel
theorem dX9_sum_102 : decode cX9_sum 102 = .ok (.i2l, 1) := by decide +kernel
theorem dX9_sum_103 : decode cX9_sum 103 = .ok (.goto 4, 3) := by decide +kernel
theorem dX9_sum_106 : decode cX9_sum 106 = .ok (.lconst 0, 1) := by decide +kernel
theorem dX9_sum_107 : decode cX9_sum 107 = .ok (.ladd, 1) := by decide +kernel
theorem dX9_sum_108 : decode cX9_sum 108 = .ok (.lstore 6, 2) := by decide +kernel
theorem dX9_sum_110 : decode cX9_sum 110 = .ok (.iinc 8 1, 3) := by decide +kernel
theorem dX9_sum_113 : decode cX9_sum 113 = .ok (.goto (-64), 3) := by decide +kernel
theorem dX9_sum_116 : decode cX9_sum 116 = .ok (.lload 6, 2) := by decide +kernel
theorem dX9_sum_118 : decode cX9_sum 118 = .ok (.lreturn, 1) := by decide +kernel
theorem dX9_over_0 : decode cX9_over 0 = .ok (.aload_n 0, 1) := by decide +kernel
theorem dX9_over_1 : decode cX9_over 1 = .ok (.iload_n 1, 1) := by decide +kernel
theorem dX9_over_2 : decode cX9_over 2 = .ok (.invokevirtual 171, 3) := by decide +kernel
theorem dX9_over_5 : decode cX9_over 5 = .ok (.ifCond .eq 8, 3) := by decide +kernel
theorem dX9_over_8 : decode cX9_over 8 = .ok (.bipush (-101), 2) := by decide +kernel
theorem dX9_over_10 : decode cX9_over 10 = .ok (.goto 9, 3) := by decide +kernel
theorem dX9_over_13 : decode cX9_over 13 = .ok (.aload_n 0, 1) := by decide +kernel
theorem dX9_over_14 : decode cX9_over 14 = .ok (.getfield 48, 3) := by decide +kernel
theorem dX9_over_17 : decode cX9_over 17 = .ok (.iload_n 1, 1) := by decide +kernel
theorem dX9_over_18 : decode cX9_over 18 = .ok (.iaload, 1) := by decide +kernel
theorem dX9_over_19 : decode cX9_over 19 = .ok (.ireturn, 1) := by decide +kernel
theorem dX9_count_0 : decode cX9_count 0 = .ok (.iconst 0, 1) := by decide +kernel
theorem dX9_count_1 : decode cX9_count 1 = .ok (.istore_n 2, 1) := by decide +kernel
theorem dX9_count_2 : decode cX9_count 2 = .ok (.iconst 0, 1) := by decide +kernel
theorem dX9_count_3 : decode cX9_count 3 = .ok (.istore_n 3, 1) := by decide +kernel
theorem dX9_count_4 : decode cX9_count 4 = .ok (.iload_n 3, 1) := by decide +kernel
theorem dX9_count_5 : decode cX9_count 5 = .ok (.aload_n 0, 1) := by decide +kernel
theorem dX9_count_6 : decode cX9_count 6 = .ok (.getfield 62, 3) := by decide +kernel
theorem dX9_count_9 : decode cX9_count 9 = .ok (.if_icmp .ge 24, 3) := by decide +kernel
theorem dX9_count_12 : decode cX9_count 12 = .ok (.iload_n 2, 1) := by decide +kernel
theorem dX9_count_13 : decode cX9_count 13 = .ok (.aload_n 0, 1) := by decide +kernel
theorem dX9_count_14 : decode cX9_count 14 = .ok (.getfield 19, 3) := by decide +kernel
theorem dX9_count_17 : decode cX9_count 17 = .ok (.aload_n 0, 1) := by decide +kernel
theorem dX9_count_18 : decode cX9_count 18 = .ok (.getfield 48, 3) := by decide +kernel
theorem dX9_count_21 : decode cX9_count 21 = .ok (.iload_n 3, 1) := by decide +kernel
theorem dX9_count_22 : decode cX9_count 22 = .ok (.iaload, 1) := by decide +kernel
theorem dX9_count_23 : decode cX9_count 23 = .ok (.laload, 1) := by decide +kernel
theorem dX9_count_24 : decode cX9_count 24 = .ok (.l2i, 1) := by decide +kernel
theorem dX9_count_25 : decode cX9_count 25 = .ok (.iadd, 1) := by decide +kernel
theorem dX9_count_26 : decode cX9_count 26 = .ok (.istore_n 2, 1) := by decide +kernel
theorem dX9_count_27 : decode cX9_count 27 = .ok (.iinc 3 1, 3) := by decide +kernel
theorem dX9_count_30 : decode cX9_count 30 = .ok (.goto (-26), 3) := by decide +kernel
theorem dX9_count_33 : decode cX9_count 33 = .ok (.iload_n 1, 1) := by decide +kernel
theorem dX9_count_34 : decode cX9_count 34 = .ok (.tableswitch 47 0 3 #[30, 35, 40, 45], 30) := by decide +kernel
theorem dX9_count_64 : decode cX9_count 64 = .ok (.aload_n 0, 1) := by decide +kernel
theorem dX9_count_65 : decode cX9_count 65 = .ok (.getfield 54, 3) := by decide +kernel
theorem dX9_count_68 : decode cX9_count 68 = .ok (.ireturn, 1) := by decide +kernel
theorem dX9_count_69 : decode cX9_count 69 = .ok (.aload_n 0, 1) := by decide +kernel
theorem dX9_count_70 : decode cX9_count 70 = .ok (.getfield 62, 3) := by decide +kernel
theorem dX9_count_73 : decode cX9_count 73 = .ok (.ireturn, 1) := by decide +kernel
theorem dX9_count_74 : decode cX9_count 74 = .ok (.aload_n 0, 1) := by decide +kernel
theorem dX9_count_75 : decode cX9_count 75 = .ok (.getfield 137, 3) := by decide +kernel
theorem dX9_count_78 : decode cX9_count 78 = .ok (.ireturn, 1) := by decide +kernel
theorem dX9_count_79 : decode cX9_count 79 = .ok (.iload_n 2, 1) := by decide +kernel
theorem dX9_count_80 : decode cX9_count 80 = .ok (.ireturn, 1) := by decide +kernel
theorem dX9_count_81 : decode cX9_count 81 = .ok (.bipush (-102), 2) := by decide +kernel
theorem dX9_count_83 : decode cX9_count 83 = .ok (.ireturn, 1) := by decide +kernel
theorem dX9_clear_0 : decode cX9_clear 0 = .ok (.aload_n 0, 1) := by decide +kernel
theorem dX9_clear_1 : decode cX9_clear 1 = .ok (.getfield 54, 3) := by decide +kernel
theorem dX9_clear_4 : decode cX9_clear 4 = .ok (.istore_n 1, 1) := by decide +kernel
theorem dX9_clear_5 : decode cX9_clear 5 = .ok (.aload_n 0, 1) := by decide +kernel
theorem dX9_clear_6 : decode cX9_clear 6 = .ok (.iconst 0, 1) := by decide +kernel
theorem dX9_clear_7 : decode cX9_clear 7 = .ok (.putfield 54, 3) := by decide +kernel
theorem dX9_clear_10 : decode cX9_clear 10 = .ok (.aload_n 0, 1) := by decide +kernel
theorem dX9_clear_11 : decode cX9_clear 11 = .ok (.iconst 0, 1) := by decide +kernel
theorem dX9_clear_12 : decode cX9_clear 12 = .ok (.putfield 62, 3) := by decide +kernel
theorem dX9_clear_15 : decode cX9_clear 15 = .ok (.aload_n 0, 1) := by decide +kernel
theorem dX9_clear_16 : decode cX9_clear 16 = .ok (.iconst 0, 1) := by decide +kernel
theorem dX9_clear_17 : decode cX9_clear 17 = .ok (.putfield 137, 3) := by decide +kernel
theorem dX9_clear_20 : decode cX9_clear 20 = .ok (.aload_n 0, 1) := by decide +kernel
theorem dX9_clear_21 : decode cX9_clear 21 = .ok (.iconst 0, 1) := by decide +kernel
theorem dX9_clear_22 : decode cX9_clear 22 = .ok (.putfield 124, 3) := by decide +kernel
theorem dX9_clear_25 : decode cX9_clear 25 = .ok (.iconst 0, 1) := by decide +kernel
theorem dX9_clear_26 : decode cX9_clear 26 = .ok (.istore_n 2, 1) := by decide +kernel
theorem dX9_clear_27 : decode cX9_clear 27 = .ok (.iload_n 2, 1) := by decide +kernel
theorem dX9_clear_28 : decode cX9_clear 28 = .ok (.bipush 8, 2) := by decide +kernel
theorem dX9_clear_30 : decode cX9_clear 30 = .ok (.if_icmp .ge 16, 3) := by decide +kernel
theorem dX9_clear_33 : decode cX9_clear 33 = .ok (.aload_n 0, 1) := by decide +kernel
theorem dX9_clear_34 : decode cX9_clear 34 = .ok (.getfield 42, 3) := by decide +kernel
theorem dX9_clear_37 : decode cX9_clear 37 = .ok (.iload_n 2, 1) := by decide +kernel
theorem dX9_clear_38 : decode cX9_clear 38 = .ok (.lconst 0, 1) := by decide +kernel
theorem dX9_clear_39 : decode cX9_clear 39 = .ok (.lastore, 1) := by decide +kernel
theorem dX9_clear_40 : decode cX9_clear 40 = .ok (.iinc 2 1, 3) := by decide +kernel
theorem dX9_clear_43 : decode cX9_clear 43 = .ok (.goto (-16), 3) := by decide +kernel
theorem dX9_clear_46 : decode cX9_clear 46 = .ok (.iload_n 1, 1) := by decide +kernel
theorem dX9_clear_47 : decode cX9_clear 47 = .ok (.ireturn, 1) := by decide +kernel
theorem dJx00060_init_a7421_0 : decode cJx00060_init_a7421 0 = .ok (.aload_n 0, 1) := by decide +kernel
theorem dJx00060_init_a7421_1 : decode cJx00060_init_a7421 1 = .ok (.aload_n 1, 1) := by decide +kernel
theorem dJx00060_init_a7421_2 : decode cJx00060_init_a7421 2 = .ok (.invokespecial 7, 3) := by decide +kernel
theorem dJx00060_init_a7421_5 : decode cJx00060_init_a7421 5 = .ok (.return_, 1) := by decide +kernel
theorem dJxde1cd_init_a7421_0 : decode cJxde1cd_init_a7421 0 = .ok (.aload_n 0, 1) := by decide +kernel
theorem dJxde1cd_init_a7421_1 : decode cJxde1cd_init_a7421 1 = .ok (.aload_n 1, 1) := by decide +kernel
theorem dJxde1cd_init_a7421_2 : decode cJxde1cd_init_a7421 2 = .ok (.invokespecial 7, 3) := by decide +kernel
theorem dJxde1cd_init_a7421_5 : decode cJxde1cd_init_a7421 5 = .ok (.return_, 1) := by decide +kernel
theorem dJ7_fill_d0a16_0 : decode cJ7_fill_d0a16 0 = .ok (.iconst 0, 1) := by decide +kernel
theorem dJ7_fill_d0a16_1 : decode cJ7_fill_d0a16 1 = .ok (.istore_n 3, 1) := by decide +kernel
theorem dJ7_fill_d0a16_2 : decode cJ7_fill_d0a16 2 = .ok (.aload_n 0, 1) := by decide +kernel
theorem dJ7_fill_d0a16_3 : decode cJ7_fill_d0a16 3 = .ok (.arraylength, 1) := by decide +kernel
theorem dJ7_fill_d0a16_4 : decode cJ7_fill_d0a16 4 = .ok (.istore 4, 2) := by decide +kernel
theorem dJ7_fill_d0a16_6 : decode cJ7_fill_d0a16 6 = .ok (.iload_n 3, 1) := by decide +kernel
theorem dJ7_fill_d0a16_7 : decode cJ7_fill_d0a16 7 = .ok (.iload 4, 2) := by decide +kernel
theorem dJ7_fill_d0a16_9 : decode cJ7_fill_d0a16 9 = .ok (.if_icmp .ge 13, 3) := by decide +kernel
theorem dJ7_fill_d0a16_12 : decode cJ7_fill_d0a16 12 = .ok (.aload_n 0, 1) := by decide +kernel
theorem dJ7_fill_d0a16_13 : decode cJ7_fill_d0a16 13 = .ok (.iload_n 3, 1) := by decide +kernel
theorem dJ7_fill_d0a16_14 : decode cJ7_fill_d0a16 14 = .ok (.lload_n 1, 1) := by decide +kernel
theorem dJ7_fill_d0a16_15 : decode cJ7_fill_d0a16 15 = .ok (.lastore, 1) := by decide +kernel
theorem dJ7_fill_d0a16_16 : decode cJ7_fill_d0a16 16 = .ok (.iinc 3 1, 3) := by decide +kernel
theorem dJ7_fill_d0a16_19 : decode cJ7_fill_d0a16 19 = .ok (.goto (-13), 3) := by decide +kernel
theorem dJ7_fill_d0a16_22 : decode cJ7_fill_d0a16 22 = .ok (.return_, 1) := by decide +kernel
theorem dJ7_fill_53178_0 : decode cJ7_fill_53178 0 = .ok (.iconst 0, 1) := by decide +kernel
theorem dJ7_fill_53178_1 : decode cJ7_fill_53178 1 = .ok (.istore_n 2, 1) := by decide +kernel
theorem dJ7_fill_53178_2 : decode cJ7_fill_53178 2 = .ok (.aload_n 0, 1) := by decide +kernel
theorem dJ7_fill_53178_3 : decode cJ7_fill_53178 3 = .ok (.arraylength, 1) := by decide +kernel
theorem dJ7_fill_53178_4 : decode cJ7_fill_53178 4 = .ok (.istore_n 3, 1) := by decide +kernel
theorem dJ7_fill_53178_5 : decode cJ7_fill_53178 5 = .ok (.iload_n 2, 1) := by decide +kernel
theorem dJ7_fill_53178_6 : decode cJ7_fill_53178 6 = .ok (.iload_n 3, 1) := by decide +kernel
theorem dJ7_fill_53178_7 : decode cJ7_fill_53178 7 = .ok (.if_icmp .ge 13, 3) := by decide +kernel
theorem dJ7_fill_53178_10 : decode cJ7_fill_53178 10 = .ok (.aload_n 0, 1) := by decide +kernel
theorem dJ7_fill_53178_11 : decode cJ7_fill_53178 11 = .ok (.iload_n 2, 1) := by decide +kernel
theorem dJ7_fill_53178_12 : decode cJ7_fill_53178 12 = .ok (.iload_n 1, 1) := by decide +kernel
theorem dJ7_fill_53178_13 : decode cJ7_fill_53178 13 = .ok (.iastore, 1) := by decide +kernel
theorem dJ7_fill_53178_14 : decode cJ7_fill_53178 14 = .ok (.iinc 2 1, 3) := by decide +kernel
theorem dJ7_fill_53178_17 : decode cJ7_fill_53178 17 = .ok (.goto (-12), 3) := by decide +kernel
theorem dJ7_fill_53178_20 : decode cJ7_fill_53178 20 = .ok (.return_, 1) := by decide +kernel
end
section
theorem dL_hold_0 : decode cL_hold 0 = .ok (.aload 4, 2) := by decide +kernel
theorem dL_hold_2 : decode cL_hold 2 = .ok (.iconst 0, 1) := by decide +kernel
theorem dL_hold_3 : decode cL_hold 3 = .ok (.aload_n 0, 1) := by decide +kernel
theorem dL_hold_4 : decode cL_hold 4 = .ok (.iload_n 1, 1) := by decide +kernel
theorem dL_hold_5 : decode cL_hold 5 = .ok (.lload_n 2, 1) := by decide +kernel
theorem dL_hold_6 : decode cL_hold 6 = .ok (.invokevirtual 7, 3) := by decide +kernel
theorem dL_hold_9 : decode cL_hold 9 = .ok (.lastore, 1) := by decide +kernel
theorem dL_hold_10 : decode cL_hold 10 = .ok (.goto 7, 3) := by decide +kernel
theorem dL_hold_13 : decode cL_hold 13 = .ok (.astore 5, 2) := by decide +kernel
theorem dL_hold_15 : decode cL_hold 15 = .ok (.iconst 1, 1) := by decide +kernel
theorem dL_hold_16 : decode cL_hold 16 = .ok (.ireturn, 1) := by decide +kernel
theorem dL_hold_17 : decode cL_hold 17 = .ok (.iconst 0, 1) := by decide +kernel
theorem dL_hold_18 : decode cL_hold 18 = .ok (.ireturn, 1) := by decide +kernel
theorem dL_held_0 : decode cL_held 0 = .ok (.aload_n 2, 1) := by decide +kernel
theorem dL_held_1 : decode cL_held 1 = .ok (.iconst 0, 1) := by decide +kernel
theorem dL_held_2 : decode cL_held 2 = .ok (.aload_n 0, 1) := by decide +kernel
theorem dL_held_3 : decode cL_held 3 = .ok (.iload_n 1, 1) := by decide +kernel
theorem dL_held_4 : decode cL_held 4 = .ok (.invokevirtual 15, 3) := by decide +kernel
theorem dL_held_7 : decode cL_held 7 = .ok (.lastore, 1) := by decide +kernel
theorem dL_held_8 : decode cL_held 8 = .ok (.goto 6, 3) := by decide +kernel
theorem dL_held_11 : decode cL_held 11 = .ok (.astore_n 3, 1) := by decide +kernel
theorem dL_held_12 : decode cL_held 12 = .ok (.iconst 1, 1) := by decide +kernel
theorem dL_held_13 : decode cL_held 13 = .ok (.ireturn, 1) := by decide +kernel
theorem dL_held_14 : decode cL_held 14 = .ok (.iconst 0, 1) := by decide +kernel
theorem dL_held_15 : decode cL_held 15 = .ok (.ireturn, 1) := by decide +kernel
theorem dL_index_0 : decode cL_index 0 = .ok (.aload_n 2, 1) := by decide +kernel
theorem dL_index_1 : decode cL_index 1 = .ok (.iconst 0, 1) := by decide +kernel
theorem dL_index_2 : decode cL_index 2 = .ok (.aload_n 0, 1) := by decide +kernel
theorem dL_index_3 : decode cL_index 3 = .ok (.iload_n 1, 1) := by decide +kernel
theorem dL_index_4 : decode cL_index 4 = .ok (.invokevirtual 19, 3) := by decide +kernel
theorem dL_index_7 : decode cL_index 7 = .ok (.lastore, 1) := by decide +kernel
theorem dL_index_8 : decode cL_index 8 = .ok (.goto 6, 3) := by decide +kernel
theorem dL_index_11 : decode cL_index 11 = .ok (.astore_n 3, 1) := by decide +kernel
theorem dL_index_12 : decode cL_index 12 = .ok (.iconst 1, 1) := by decide +kernel
theorem dL_index_13 : decode cL_index 13 = .ok (.ireturn, 1) := by decide +kernel
theorem dL_index_14 : decode cL_index 14 = .ok (.iconst 0, 1) := by decide +kernel
theorem dL_index_15 : decode cL_index 15 = .ok (.ireturn, 1) := by decide +kernel
theorem dL_element_0 : decode cL_element 0 = .ok (.aload 4, 2) := by decide +kernel
theorem dL_element_2 : decode cL_element 2 = .ok (.iconst 0, 1) := by decide +kernel
theorem dL_element_3 : decode cL_element 3 = .ok (.aload_n 0, 1) := by decide +kernel
theorem dL_element_4 : decode cL_element 4 = .ok (.iload_n 1, 1) := by decide +kernel
theorem dL_element_5 : decode cL_element 5 = .ok (.lload_n 2, 1) := by decide +kernel
theorem dL_element_6 : decode cL_element 6 = .ok (.invokevirtual 24, 3) := by decide +kernel
theorem dL_element_9 : decode cL_element 9 = .ok (.i2l, 1) := by decide +kernel
theorem dL_element_10 : decode cL_element 10 = .ok (.lastore, 1) := by decide +kernel
theorem dL_element_11 : decode cL_element 11 = .ok (.goto 7, 3) := by decide +kernel
theorem dL_element_14 : decode cL_element 14 = .ok (.astore 5, 2) := by decide +kernel
theorem dL_element_16 : decode cL_element 16 = .ok (.iconst 1, 1) := by decide +kernel
theorem dL_element_17 : decode cL_element 17 = .ok (.ireturn, 1) := by decide +kernel
theorem dL_element_18 : decode cL_element 18 = .ok (.iconst 0, 1) := by decide +kernel
theorem dL_element_19 : decode cL_element 19 = .ok (.ireturn, 1) := by decide +kernel
theorem dL_go_0 : decode cL_go 0 = .ok (.aload 4, 2) := by decide +kernel
theorem dL_go_2 : decode cL_go 2 = .ok (.iconst 0, 1) := by decide +kernel
theorem dL_go_3 : decode cL_go 3 = .ok (.aload_n 0, 1) := by decide +kernel
theorem dL_go_4 : decode cL_go 4 = .ok (.iload_n 1, 1) := by decide +kernel
theorem dL_go_5 : decode cL_go 5 = .ok (.lload_n 2, 1) := by decide +kernel
theorem dL_go_6 : decode cL_go 6 = .ok (.invokevirtual 28, 3) := by decide +kernel
theorem dL_go_9 : decode cL_go 9 = .ok (.lastore, 1) := by decide +kernel
theorem dL_go_10 : decode cL_go 10 = .ok (.goto 7, 3) := by decide +kernel
theorem dL_go_13 : decode cL_go 13 = .ok (.astore 5, 2) := by decide +kernel
theorem dL_go_15 : decode cL_go 15 = .ok (.iconst 1, 1) := by decide +kernel
theorem dL_go_16 : decode cL_go 16 = .ok (.ireturn, 1) := by decide +kernel
theorem dL_go_17 : decode cL_go 17 = .ok (.iconst 0, 1) := by decide +kernel
theorem dL_go_18 : decode cL_go 18 = .ok (.ireturn, 1) := by decide +kernel
theorem dL_array_0 : decode cL_array 0 = .ok (.aload_n 2, 1) := by decide +kernel
theorem dL_array_1 : decode cL_array 1 = .ok (.iconst 0, 1) := by decide +kernel
theorem dL_array_2 : decode cL_array 2 = .ok (.aload_n 0, 1) := by decide +kernel
theorem dL_array_3 : decode cL_array 3 = .ok (.iload_n 1, 1) := by decide +kernel
theorem dL_array_4 : decode cL_array 4 = .ok (.invokevirtual 31, 3) := by decide +kernel
theorem dL_array_7 : decode cL_array 7 = .ok (.i2l, 1) := by decide +kernel
theorem dL_array_8 : decode cL_array 8 = .ok (.lastore, 1) := by decide +kernel
theorem dL_array_9 : decode cL_array 9 = .ok (.goto 9, 3) := by decide +kernel
theorem dL_array_12 : decode cL_array 12 = .ok (.astore_n 3, 1) := by decide +kernel
theorem dL_array_13 : decode cL_array 13 = .ok (.iconst 1, 1) := by decide +kernel
theorem dL_array_14 : decode cL_array 14 = .ok (.ireturn, 1) := by decide +kernel
theorem dL_array_15 : decode cL_array 15 = .ok (.astore_n 3, 1) := by decide +kernel
theorem dL_array_16 : decode cL_array 16 = .ok (.iconst 2, 1) := by decide +kernel
theorem dL_array_17 : decode cL_array 17 = .ok (.ireturn, 1) := by decide +kernel
theorem dL_array_18 : decode cL_array 18 = .ok (.iconst 0, 1) := by decide +kernel
theorem dL_array_19 : decode cL_array 19 = .ok (.ireturn, 1) := by decide +kernel
theorem dL_put_0 : decode cL_put 0 = .ok (.aload_n 3, 1) := by decide +kernel
theorem dL_put_1 : decode cL_put 1 = .ok (.iconst 0, 1) := by decide +kernel
theorem dL_put_2 : decode cL_put 2 = .ok (.aload_n 0, 1) := by decide +kernel
theorem dL_put_3 : decode cL_put 3 = .ok (.iload_n 1, 1) := by decide +kernel
theorem dL_put_4 : decode cL_put 4 = .ok (.iload_n 2, 1) := by decide +kernel
theorem dL_put_5 : decode cL_put 5 = .ok (.invokevirtual 39, 3) := by decide +kernel
theorem dL_put_8 : decode cL_put 8 = .ok (.i2l, 1) := by decide +kernel
theorem dL_put_9 : decode cL_put 9 = .ok (.lastore, 1) := by decide +kernel
theorem dL_put_10 : decode cL_put 10 = .ok (.goto 7, 3) := by decide +kernel
theorem dL_put_13 : decode cL_put 13 = .ok (.astore 4, 2) := by decide +kernel
theorem dL_put_15 : decode cL_put 15 = .ok (.iconst 1, 1) := by decide +kernel
theorem dL_put_16 : decode cL_put 16 = .ok (.ireturn, 1) := by decide +kernel
theorem dL_put_17 : decode cL_put 17 = .ok (.iconst 0, 1) := by decide +kernel
theorem dL_put_18 : decode cL_put 18 = .ok (.ireturn, 1) := by decide +kernel
theorem dL_at_0 : decode cL_at 0 = .ok (.aload_n 2, 1) := by decide +kernel
theorem dL_at_1 : decode cL_at 1 = .ok (.iconst 0, 1) := by decide +kernel
theorem dL_at_2 : decode cL_at 2 = .ok (.aload_n 0, 1) := by decide +kernel
theorem dL_at_3 : decode cL_at 3 = .ok (.iload_n 1, 1) := by decide +kernel
theorem dL_at_4 : decode cL_at 4 = .ok (.invokevirtual 43, 3) := by decide +kernel
theorem dL_at_7 : decode cL_at 7 = .ok (.i2l, 1) := by decide +kernel
theorem dL_at_8 : decode cL_at 8 = .ok (.lastore, 1) := by decide +kernel
theorem dL_at_9 : decode cL_at 9 = .ok (.goto 6, 3) := by decide +kernel
theorem dL_at_12 : decode cL_at 12 = .ok (.astore_n 3, 1) := by decide +kernel
theorem dL_at_13 : decode cL_at 13 = .ok (.iconst 1, 1) := by decide +kernel
theorem dL_at_14 : decode cL_at 14 = .ok (.ireturn, 1) := by decide +kernel
theorem dL_at_15 : decode cL_at 15 = .ok (.iconst 0, 1) := by decide +kernel
theorem dL_at_16 : decode cL_at 16 = .ok (.ireturn, 1) := by decide +kernel
theorem dL_law_0 : decode cL_law 0 = .ok (.new 8, 3) := by decide +kernel
theorem dL_law_3 : decode cL_law 3 = .ok (.dup, 1) := by decide +kernel
theorem dL_law_4 : decode cL_law 4 = .ok (.invokespecial 46, 3) := by decide +kernel
theorem dL_law_7 : decode cL_law 7 = .ok (.astore_n 1, 1) := by decide +kernel
theorem dL_law_8 : decode cL_law 8 = .ok (.new 47, 3) := by decide +kernel
theorem dL_law_11 : decode cL_law 11 = .ok (.dup, 1) := by decide +kernel
theorem dL_law_12 : decode cL_law 12 = .ok (.invokespecial 49, 3) := by decide +kernel
theorem dL_law_15 : decode cL_law 15 = .ok (.astore_n 2, 1) := by decide +kernel
theorem dL_law_16 : decode cL_law 16 = .ok (.iconst 1, 1) := by decide +kernel
theorem dL_law_17 : decode cL_law 17 = .ok (.newarray .long, 2) := by decide +kernel
theorem dL_law_19 : decode cL_law 19 = .ok (.astore_n 3, 1) := by decide +kernel
theorem dL_law_20 : decode cL_law 20 = .ok (.iconst 0, 1) := by decide +kernel
theorem dL_law_21 : decode cL_law 21 = .ok (.istore 4, 2) := by decide +kernel
theorem dL_law_23 : decode cL_law 23 = .ok (.iload 4, 2) := by decide +kernel
theorem dL_law_25 : decode cL_law 25 = .ok (.aload_n 0, 1) := by decide +kernel
theorem dL_law_26 : decode cL_law 26 = .ok (.arraylength, 1) := by decide +kernel
theorem dL_law_27 : decode cL_law 27 = .ok (.bipush 6, 2) := by decide +kernel
theorem dL_law_29 : decode cL_law 29 = .ok (.isub, 1) := by decide +kernel
theorem dL_law_30 : decode cL_law 30 = .ok (.if_icmp .gt 1422, 3) := by decide +kernel
theorem dL_law_33 : decode cL_law 33 = .ok (.aload_n 0, 1) := by decide +kernel
theorem dL_law_34 : decode cL_law 34 = .ok (.iload 4, 2) := by decide +kernel
theorem dL_law_36 : decode cL_law 36 = .ok (.iaload, 1) := by decide +kernel
theorem dL_law_37 : decode cL_law 37 = .ok (.bipush 31, 2) := by decide +kernel
theorem dL_law_39 : decode cL_law 39 = .ok (.iand, 1) := by decide +kernel
theorem dL_law_40 : decode cL_law 40 = .ok (.tableswitch 1406 0 23 #[112, 213, 250, 299, 412, 437, 474, 523, 560, 586, 685, 740, 795, 820, 920, 1019, 1044, 1081, 1137, 1205, 1261, 1343, 1368, 1393], 112) := by decide +kernel
theorem dL_law_152 : decode cL_law 152 = .ok (.aload_n 1, 1) := by decide +kernel
theorem dL_law_153 : decode cL_law 153 = .ok (.aload_n 0, 1) := by decide +kernel
theorem dL_law_154 : decode cL_law 154 = .ok (.iload 4, 2) := by decide +kernel
theorem dL_law_156 : decode cL_law 156 = .ok (.iconst 1, 1) := by decide +kernel
theorem dL_law_157 : decode cL_law 157 = .ok (.iadd, 1) := by decide +kernel
theorem dL_law_158 : decode cL_law 158 = .ok (.iaload, 1) := by decide +kernel
theorem dL_law_159 : decode cL_law 159 = .ok (.i2l, 1) := by decide +kernel
theorem dL_law_160 : decode cL_law 160 = .ok (.bipush 32, 2) := by decide +kernel
theorem dL_law_162 : decode cL_law 162 = .ok (.lshl, 1) := by decide +kernel
theorem dL_law_163 : decode cL_law 163 = .ok (.aload_n 0, 1) := by decide +kernel
theorem dL_law_164 : decode cL_law 164 = .ok (.iload 4, 2) := by decide +kernel
theorem dL_law_166 : decode cL_law 166 = .ok (.iconst 2, 1) := by decide +kernel
theorem dL_law_167 : decode cL_law 167 = .ok (.iadd, 1) := by decide +kernel
theorem dL_law_168 : decode cL_law 168 = .ok (.iaload, 1) := by decide +kernel
theorem dL_law_169 : decode cL_law 169 = .ok (.i2l, 1) := by decide +kernel
theorem dL_law_170 : decode cL_law 170 = .ok (.ldc2_w 50, 3) := by decide +kernel
theorem dL_law_173 : decode cL_law 173 = .ok (.land, 1) := by decide +kernel
theorem dL_law_174 : decode cL_law 174 = .ok (.lor, 1) := by decide +kernel
theorem dL_law_175 : decode cL_law 175 = .ok (.aload_n 0, 1) := by decide +kernel
theorem dL_law_176 : decode cL_law 176 = .ok (.iload 4, 2) := by decide +kernel
theorem dL_law_178 : decode cL_law 178 = .ok (.iconst 3, 1) := by decide +kernel
theorem dL_law_179 : decode cL_law 179 = .ok (.iadd, 1) := by decide +kernel
theorem dL_law_180 : decode cL_law 180 = .ok (.iaload, 1) := by decide +kernel
theorem dL_law_181 : decode cL_law 181 = .ok (.i2l, 1) := by decide +kernel
theorem dL_law_182 : decode cL_law 182 = .ok (.bipush 32, 2) := by decide +kernel
theorem dL_law_184 : decode cL_law 184 = .ok (.lshl, 1) := by decide +kernel
theorem dL_law_185 : decode cL_law 185 = .ok (.aload_n 0, 1) := by decide +kernel
theorem dL_law_186 : decode cL_law 186 = .ok (.iload 4, 2) := by decide +kernel
theorem dL_law_188 : decode cL_law 188 = .ok (.iconst 4, 1) := by decide +kernel
theorem dL_law_189 : decode cL_law 189 = .ok (.iadd, 1) := by decide +kernel
theorem dL_law_190 : decode cL_law 190 = .ok (.iaload, 1) := by decide +kernel
theorem dL_law_191 : decode cL_law 191 = .ok (.i2l, 1) := by decide +kernel
theorem dL_law_192 : decode cL_law 192 = .ok (.ldc2_w 50, 3) := by decide +kernel
theorem dL_law_195 : decode cL_law 195 = .ok (.land, 1) := by decide +kernel
theorem dL_law_196 : decode cL_law 196 = .ok (.lor, 1) := by decide +kernel
theorem dL_law_197 : decode cL_law 197 = .ok (.invokevirtual 52, 3) := by decide +kernel
theorem dL_law_200 : decode cL_law 200 = .ok (.aload_n 2, 1) := by decide +kernel
theorem dL_law_201 : decode cL_law 201 = .ok (.aload_n 0, 1) := by decide +kernel
theorem dL_law_202 : decode cL_law 202 = .ok (.iload 4, 2) := by decide +kernel
theorem dL_law_204 : decode cL_law 204 = .ok (.iconst 1, 1) := by decide +kernel
theorem dL_law_205 : decode cL_law 205 = .ok (.iadd, 1) := by decide +kernel
theorem dL_law_206 : decode cL_law 206 = .ok (.iaload, 1) := by decide +kernel
theorem dL_law_207 : decode cL_law 207 = .ok (.i2l, 1) := by decide +kernel
theorem dL_law_208 : decode cL_law 208 = .ok (.bipush 32, 2) := by decide +kernel
theorem dL_law_210 : decode cL_law 210 = .ok (.lshl, 1) := by decide +kernel
theorem dL_law_211 : decode cL_law 211 = .ok (.aload_n 0, 1) := by decide +kernel
theorem dL_law_212 : decode cL_law 212 = .ok (.iload 4, 2) := by decide +kernel
theorem dL_law_214 : decode cL_law 214 = .ok (.iconst 2, 1) := by decide +kernel
theorem dL_law_215 : decode cL_law 215 = .ok (.iadd, 1) := by decide +kernel
theorem dL_law_216 : decode cL_law 216 = .ok (.iaload, 1) := by decide +kernel
theorem dL_law_217 : decode cL_law 217 = .ok (.i2l, 1) := by decide +kernel
theorem dL_law_218 : decode cL_law 218 = .ok (.ldc2_w 50, 3) := by decide +kernel
theorem dL_law_221 : decode cL_law 221 = .ok (.land, 1) := by decide +kernel
theorem dL_law_222 : decode cL_law 222 = .ok (.lor, 1) := by decide +kernel
theorem dL_law_223 : decode cL_law 223 = .ok (.aload_n 0, 1) := by decide +kernel
theorem dL_law_224 : decode cL_law 224 = .ok (.iload 4, 2) := by decide +kernel
theorem dL_law_226 : decode cL_law 226 = .ok (.iconst 3, 1) := by decide +kernel
theorem dL_law_227 : decode cL_law 227 = .ok (.iadd, 1) := by decide +kernel
theorem dL_law_228 : decode cL_law 228 = .ok (.iaload, 1) := by decide +kernel
theorem dL_law_229 : decode cL_law 229 = .ok (.i2l, 1) := by decide +kernel
theorem dL_law_230 : decode cL_law 230 = .ok (.bipush 32, 2) := by decide +kernel
theorem dL_law_232 : decode cL_law 232 = .ok (.lshl, 1) := by decide +kernel
theorem dL_law_233 : decode cL_law 233 = .ok (.aload_n 0, 1) := by decide +kernel
theorem dL_law_234 : decode cL_law 234 = .ok (.iload 4, 2) := by decide +kernel
theorem dL_law_236 : decode cL_law 236 = .ok (.iconst 4, 1) := by decide +kernel
theorem dL_law_237 : decode cL_law 237 = .ok (.iadd, 1) := by decide +kernel
theorem dL_law_238 : decode cL_law 238 = .ok (.iaload, 1) := by decide +kernel
theorem dL_law_239 : decode cL_law 239 = .ok (.i2l, 1) := by decide +kernel
theorem dL_law_240 : decode cL_law 240 = .ok (.ldc2_w 50, 3) := by decide +kernel
theorem dL_law_243 : decode cL_law 243 = .ok (.land, 1) := by decide +kernel
theorem dL_law_244 : decode cL_law 244 = .ok (.lor, 1) := by decide +kernel
theorem dL_law_245 : decode cL_law 245 = .ok (.invokevirtual 56, 3) := by decide +kernel
theorem dL_law_248 : decode cL_law 248 = .ok (.if_icmp .eq 1198, 3) := by decide +kernel
theorem dL_law_251 : decode cL_law 251 = .ok (.iconst 0, 1) := by decide +kernel
theorem dL_law_252 : decode cL_law 252 = .ok (.ireturn, 1) := by decide +kernel
theorem dL_law_253 : decode cL_law 253 = .ok (.aload_n 1, 1) := by decide +kernel
theorem dL_law_254 : decode cL_law 254 = .ok (.aload_n 0, 1) := by decide +kernel
theorem dL_law_255 : decode cL_law 255 = .ok (.iload 4, 2) := by decide +kernel
theorem dL_law_257 : decode cL_law 257 = .ok (.iconst 1, 1) := by decide +kernel
theorem dL_law_258 : decode cL_law 258 = .ok (.iadd, 1) := by decide +kernel
theorem dL_law_259 : decode cL_law 259 = .ok (.iaload, 1) := by decide +kernel
theorem dL_law_260 : decode cL_law 260 = .ok (.aload_n 0, 1) := by decide +kernel
theorem dL_law_261 : decode cL_law 261 = .ok (.iload 4, 2) := by decide +kernel
theorem dL_law_263 : decode cL_law 263 = .ok (.iconst 2, 1) := by decide +kernel
theorem dL_law_264 : decode cL_law 264 = .ok (.iadd, 1) := by decide +kernel
theorem dL_law_265 : decode cL_law 265 = .ok (.iaload, 1) := by decide +kernel
theorem dL_law_266 : decode cL_law 266 = .ok (.invokevirtual 57, 3) := by decide +kernel
theorem dL_law_269 : decode cL_law 269 = .ok (.aload_n 2, 1) := by decide +kernel
theorem dL_law_270 : decode cL_law 270 = .ok (.aload_n 0, 1) := by decide +kernel
theorem dL_law_271 : decode cL_law 271 = .ok (.iload 4, 2) := by decide +kernel
theorem dL_law_273 : decode cL_law 273 = .ok (.iconst 1, 1) := by decide +kernel
theorem dL_law_274 : decode cL_law 274 = .ok (.iadd, 1) := by decide +kernel
theorem dL_law_275 : decode cL_law 275 = .ok (.iaload, 1) := by decide +kernel
theorem dL_law_276 : decode cL_law 276 = .ok (.aload_n 0, 1) := by decide +kernel
theorem dL_law_277 : decode cL_law 277 = .ok (.iload 4, 2) := by decide +kernel
theorem dL_law_279 : decode cL_law 279 = .ok (.iconst 2, 1) := by decide +kernel
theorem dL_law_280 : decode cL_law 280 = .ok (.iadd, 1) := by decide +kernel
theorem dL_law_281 : decode cL_law 281 = .ok (.iaload, 1) := by decide +kernel
theorem dL_law_282 : decode cL_law 282 = .ok (.invokevirtual 60, 3) := by decide +kernel
theorem dL_law_285 : decode cL_law 285 = .ok (.if_icmp .eq 1161, 3) := by decide +kernel
theorem dL_law_288 : decode cL_law 288 = .ok (.iconst 0, 1) := by decide +kernel
theorem dL_law_289 : decode cL_law 289 = .ok (.ireturn, 1) := by decide +kernel
theorem dL_law_290 : decode cL_law 290 = .ok (.aload_n 1, 1) := by decide +kernel
theorem dL_law_291 : decode cL_law 291 = .ok (.aload_n 0, 1) := by decide +kernel
theorem dL_law_292 : decode cL_law 292 = .ok (.iload 4, 2) := by decide +kernel
theorem dL_law_294 : decode cL_law 294 = .ok (.iconst 1, 1) := by decide +kernel
theorem dL_law_295 : decode cL_law 295 = .ok (.iadd, 1) := by decide +kernel
theorem dL_law_296 : decode cL_law 296 = .ok (.iaload, 1) := by decide +kernel
theorem dL_law_297 : decode cL_law 297 = .ok (.aload_n 0, 1) := by decide +kernel
theorem dL_law_298 : decode cL_law 298 = .ok (.iload 4, 2) := by decide +kernel
theorem dL_law_300 : decode cL_law 300 = .ok (.iconst 2, 1) := by decide +kernel
theorem dL_law_301 : decode cL_law 301 = .ok (.iadd, 1) := by decide +kernel
theorem dL_law_302 : decode cL_law 302 = .ok (.iaload, 1) := by decide +kernel
theorem dL_law_303 : decode cL_law 303 = .ok (.aload_n 0, 1) := by decide +kernel
theorem dL_law_304 : decode cL_law 304 = .ok (.iload 4, 2) := by decide +kernel
theorem dL_law_306 : decode cL_law 306 = .ok (.iconst 3, 1) := by decide +kernel
theorem dL_law_307 : decode cL_law 307 = .ok (.iadd, 1) := by decide +kernel
theorem dL_law_308 : decode cL_law 308 = .ok (.iaload, 1) := by decide +kernel
theorem dL_law_309 : decode cL_law 309 = .ok (.invokevirtual 61, 3) := by decide +kernel
theorem dL_law_312 : decode cL_law 312 = .ok (.aload_n 2, 1) := by decide +kernel
theorem dL_law_313 : decode cL_law 313 = .ok (.aload_n 0, 1) := by decide +kernel
theorem dL_law_314 : decode cL_law 314 = .ok (.iload 4, 2) := by decide +kernel
theorem dL_law_316 : decode cL_law 316 = .ok (.iconst 1, 1) := by decide +kernel
theorem dL_law_317 : decode cL_law 317 = .ok (.iadd, 1) := by decide +kernel
theorem dL_law_318 : decode cL_law 318 = .ok (.iaload, 1) := by decide +kernel
theorem dL_law_319 : decode cL_law 319 = .ok (.aload_n 0, 1) := by decide +kernel
theorem dL_law_320 : decode cL_law 320 = .ok (.iload 4, 2) := by decide +kernel
theorem dL_law_322 : decode cL_law 322 = .ok (.iconst 2, 1) := by decide +kernel
theorem dL_law_323 : decode cL_law 323 = .ok (.iadd, 1) := by decide +kernel
theorem dL_law_324 : decode cL_law 324 = .ok (.iaload, 1) := by decide +kernel
theorem dL_law_325 : decode cL_law 325 = .ok (.aload_n 0, 1) := by decide +kernel
theorem dL_law_326 : decode cL_law 326 = .ok (.iload 4, 2) := by decide +kernel
theorem dL_law_328 : decode cL_law 328 = .ok (.iconst 3, 1) := by decide +kernel
theorem dL_law_329 : decode cL_law 329 = .ok (.iadd, 1) := by decide +kernel
theorem dL_law_330 : decode cL_law 330 = .ok (.iaload, 1) := by decide +kernel
theorem dL_law_331 : decode cL_law 331 = .ok (.invokevirtual 65, 3) := by decide +kernel
theorem dL_law_334 : decode cL_law 334 = .ok (.if_icmp .eq 1112, 3) := by decide +kernel
theorem dL_law_337 : decode cL_law 337 = .ok (.iconst 0, 1) := by decide +kernel
theorem dL_law_338 : decode cL_law 338 = .ok (.ireturn, 1) := by decide +kernel
theorem dL_law_339 : decode cL_law 339 = .ok (.aload_n 1, 1) := by decide +kernel
theorem dL_law_340 : decode cL_law 340 = .ok (.aload_n 0, 1) := by decide +kernel
theorem dL_law_341 : decode cL_law 341 = .ok (.iload 4, 2) := by decide +kernel
theorem dL_law_343 : decode cL_law 343 = .ok (.iconst 1, 1) := by decide +kernel
theorem dL_law_344 : decode cL_law 344 = .ok (.iadd, 1) := by decide +kernel
theorem dL_law_345 : decode cL_law 345 = .ok (.iaload, 1) := by decide +kernel
theorem dL_law_346 : decode cL_law 346 = .ok (.i2l, 1) := by decide +kernel
theorem dL_law_347 : decode cL_law 347 = .ok (.bipush 32, 2) := by decide +kernel
theorem dL_law_349 : decode cL_law 349 = .ok (.lshl, 1) := by decide +kernel
theorem dL_law_350 : decode cL_law 350 = .ok (.aload_n 0, 1) := by decide +kernel
theorem dL_law_351 : decode cL_law 351 = .ok (.iload 4, 2) := by decide +kernel
theorem dL_law_353 : decode cL_law 353 = .ok (.iconst 2, 1) := by decide +kernel
theorem dL_law_354 : decode cL_law 354 = .ok (.iadd, 1) := by decide +kernel
theorem dL_law_355 : decode cL_law 355 = .ok (.iaload, 1) := by decide +kernel
theorem dL_law_356 : decode cL_law 356 = .ok (.i2l, 1) := by decide +kernel
theorem dL_law_357 : decode cL_law 357 = .ok (.ldc2_w 50, 3) := by decide +kernel
theorem dL_law_360 : decode cL_law 360 = .ok (.land, 1) := by decide +kernel
theorem dL_law_361 : decode cL_law 361 = .ok (.lor, 1) := by decide +kernel
theorem dL_law_362 : decode cL_law 362 = .ok (.aload_n 0, 1) := by decide +kernel
theorem dL_law_363 : decode cL_law 363 = .ok (.iload 4, 2) := by decide +kernel
theorem dL_law_365 : decode cL_law 365 = .ok (.iconst 3, 1) := by decide +kernel
theorem dL_law_366 : decode cL_law 366 = .ok (.iadd, 1) := by decide +kernel
theorem dL_law_367 : decode cL_law 367 = .ok (.iaload, 1) := by decide +kernel
theorem dL_law_368 : decode cL_law 368 = .ok (.i2l, 1) := by decide +kernel
theorem dL_law_369 : decode cL_law 369 = .ok (.bipush 32, 2) := by decide +kernel
theorem dL_law_371 : decode cL_law 371 = .ok (.lshl, 1) := by decide +kernel
theorem dL_law_372 : decode cL_law 372 = .ok (.aload_n 0, 1) := by decide +kernel
theorem dL_law_373 : decode cL_law 373 = .ok (.iload 4, 2) := by decide +kernel
theorem dL_law_375 : decode cL_law 375 = .ok (.iconst 4, 1) := by decide +kernel
theorem dL_law_376 : decode cL_law 376 = .ok (.iadd, 1) := by decide +kernel
theorem dL_law_377 : decode cL_law 377 = .ok (.iaload, 1) := by decide +kernel
theorem dL_law_378 : decode cL_law 378 = .ok (.i2l, 1) := by decide +kernel
theorem dL_law_379 : decode cL_law 379 = .ok (.ldc2_w 50, 3) := by decide +kernel
theorem dL_law_382 : decode cL_law 382 = .ok (.land, 1) := by decide +kernel
theorem dL_law_383 : decode cL_law 383 = .ok (.lor, 1) := by decide +kernel
theorem dL_law_384 : decode cL_law 384 = .ok (.aload_n 0, 1) := by decide +kernel
theorem dL_law_385 : decode cL_law 385 = .ok (.iload 4, 2) := by decide +kernel
theorem dL_law_387 : decode cL_law 387 = .ok (.iconst 5, 1) := by decide +kernel
theorem dL_law_388 : decode cL_law 388 = .ok (.iadd, 1) := by decide +kernel
theorem dL_law_389 : decode cL_law 389 = .ok (.iaload, 1) := by decide +kernel
theorem dL_law_390 : decode cL_law 390 = .ok (.invokevirtual 66, 3) := by decide +kernel
theorem dL_law_393 : decode cL_law 393 = .ok (.aload_n 2, 1) := by decide +kernel
theorem dL_law_394 : decode cL_law 394 = .ok (.aload_n 0, 1) := by decide +kernel
theorem dL_law_395 : decode cL_law 395 = .ok (.iload 4, 2) := by decide +kernel
theorem dL_law_397 : decode cL_law 397 = .ok (.iconst 1, 1) := by decide +kernel
theorem dL_law_398 : decode cL_law 398 = .ok (.iadd, 1) := by decide +kernel
theorem dL_law_399 : decode cL_law 399 = .ok (.iaload, 1) := by decide +kernel
theorem dL_law_400 : decode cL_law 400 = .ok (.i2l, 1) := by decide +kernel
theorem dL_law_401 : decode cL_law 401 = .ok (.bipush 32, 2) := by decide +kernel
theorem dL_law_403 : decode cL_law 403 = .ok (.lshl, 1) := by decide +kernel
theorem dL_law_404 : decode cL_law 404 = .ok (.aload_n 0, 1) := by decide +kernel
theorem dL_law_405 : decode cL_law 405 = .ok (.iload 4, 2) := by decide +kernel
theorem dL_law_407 : decode cL_law 407 = .ok (.iconst 2, 1) := by decide +kernel
theorem dL_law_408 : decode cL_law 408 = .ok (.iadd, 1) := by decide +kernel
theorem dL_law_409 : decode cL_law 409 = .ok (.iaload, 1) := by decide +kernel
theorem dL_law_410 : decode cL_law 410 = .ok (.i2l, 1) := by decide +kernel
theorem dL_law_411 : decode cL_law 411 = .ok (.ldc2_w 50, 3) := by decide +kernel
theorem dL_law_414 : decode cL_law 414 = .ok (.land, 1) := by decide +kernel
theorem dL_law_415 : decode cL_law 415 = .ok (.lor, 1) := by decide +kernel
theorem dL_law_416 : decode cL_law 416 = .ok (.aload_n 0, 1) := by decide +kernel
theorem dL_law_417 : decode cL_law 417 = .ok (.iload 4, 2) := by decide +kernel
theorem dL_law_419 : decode cL_law 419 = .ok (.iconst 3, 1) := by decide +kernel
theorem dL_law_420 : decode cL_law 420 = .ok (.iadd, 1) := by decide +kernel
theorem dL_law_421 : decode cL_law 421 = .ok (.iaload, 1) := by decide +kernel
theorem dL_law_422 : decode cL_law 422 = .ok (.i2l, 1) := by decide +kernel
theorem dL_law_423 : decode cL_law 423 = .ok (.bipush 32, 2) := by decide +kernel
theorem dL_law_425 : decode cL_law 425 = .ok (.lshl, 1) := by decide +kernel
theorem dL_law_426 : decode cL_law 426 = .ok (.aload_n 0, 1) := by decide +kernel
theorem dL_law_427 : decode cL_law 427 = .ok (.iload 4, 2) := by decide +kernel
theorem dL_law_429 : decode cL_law 429 = .ok (.iconst 4, 1) := by decide +kernel
theorem dL_law_430 : decode cL_law 430 = .ok (.iadd, 1) := by decide +kernel
theorem dL_law_431 : decode cL_law 431 = .ok (.iaload, 1) := by decide +kernel
theorem dL_law_432 : decode cL_law 432 = .ok (.i2l, 1) := by decide +kernel
theorem dL_law_433 : decode cL_law 433 = .ok (.ldc2_w 50, 3) := by decide +kernel
theorem dL_law_436 : decode cL_law 436 = .ok (.land, 1) := by decide +kernel
theorem dL_law_437 : decode cL_law 437 = .ok (.lor, 1) := by decide +kernel
theorem dL_law_438 : decode cL_law 438 = .ok (.aload_n 0, 1) := by decide +kernel
theorem dL_law_439 : decode cL_law 439 = .ok (.iload 4, 2) := by decide +kernel
theorem dL_law_441 : decode cL_law 441 = .ok (.iconst 5, 1) := by decide +kernel
theorem dL_law_442 : decode cL_law 442 = .ok (.iadd, 1) := by decide +kernel
theorem dL_law_443 : decode cL_law 443 = .ok (.iaload, 1) := by decide +kernel
theorem dL_law_444 : decode cL_law 444 = .ok (.invokevirtual 70, 3) := by decide +kernel
theorem dL_law_447 : decode cL_law 447 = .ok (.if_icmp .eq 999, 3) := by decide +kernel
theorem dL_law_450 : decode cL_law 450 = .ok (.iconst 0, 1) := by decide +kernel
theorem dL_law_451 : decode cL_law 451 = .ok (.ireturn, 1) := by decide +kernel
theorem dL_law_452 : decode cL_law 452 = .ok (.aload_n 1, 1) := by decide +kernel
theorem dL_law_453 : decode cL_law 453 = .ok (.aload_n 0, 1) := by decide +kernel
theorem dL_law_454 : decode cL_law 454 = .ok (.iload 4, 2) := by decide +kernel
theorem dL_law_456 : decode cL_law 456 = .ok (.iconst 1, 1) := by decide +kernel
theorem dL_law_457 : decode cL_law 457 = .ok (.iadd, 1) := by decide +kernel
theorem dL_law_458 : decode cL_law 458 = .ok (.iaload, 1) := by decide +kernel
theorem dL_law_459 : decode cL_law 459 = .ok (.invokevirtual 71, 3) := by decide +kernel
theorem dL_law_462 : decode cL_law 462 = .ok (.aload_n 2, 1) := by decide +kernel
theorem dL_law_463 : decode cL_law 463 = .ok (.aload_n 0, 1) := by decide +kernel
theorem dL_law_464 : decode cL_law 464 = .ok (.iload 4, 2) := by decide +kernel
theorem dL_law_466 : decode cL_law 466 = .ok (.iconst 1, 1) := by decide +kernel
theorem dL_law_467 : decode cL_law 467 = .ok (.iadd, 1) := by decide +kernel
theorem dL_law_468 : decode cL_law 468 = .ok (.iaload, 1) := by decide +kernel
theorem dL_law_469 : decode cL_law 469 = .ok (.invokevirtual 74, 3) := by decide +kernel
theorem dL_law_472 : decode cL_law 472 = .ok (.if_icmp .eq 974, 3) := by decide +kernel
theorem dL_law_475 : decode cL_law 475 = .ok (.iconst 0, 1) := by decide +kernel
theorem dL_law_476 : decode cL_law 476 = .ok (.ireturn, 1) := by decide +kernel
theorem dL_law_477 : decode cL_law 477 = .ok (.aload_n 1, 1) := by decide +kernel
theorem dL_law_478 : decode cL_law 478 = .ok (.aload_n 0, 1) := by decide +kernel
theorem dL_law_479 : decode cL_law 479 = .ok (.iload 4, 2) := by decide +kernel
theorem dL_law_481 : decode cL_law 481 = .ok (.iconst 1, 1) := by decide +kernel
theorem dL_law_482 : decode cL_law 482 = .ok (.iadd, 1) := by decide +kernel
theorem dL_law_483 : decode cL_law 483 = .ok (.iaload, 1) := by decide +kernel
theorem dL_law_484 : decode cL_law 484 = .ok (.aload_n 0, 1) := by decide +kernel
theorem dL_law_485 : decode cL_law 485 = .ok (.iload 4, 2) := by decide +kernel
theorem dL_law_487 : decode cL_law 487 = .ok (.iconst 2, 1) := by decide +kernel
theorem dL_law_488 : decode cL_law 488 = .ok (.iadd, 1) := by decide +kernel
theorem dL_law_489 : decode cL_law 489 = .ok (.iaload, 1) := by decide +kernel
theorem dL_law_490 : decode cL_law 490 = .ok (.invokevirtual 75, 3) := by decide +kernel
theorem dL_law_493 : decode cL_law 493 = .ok (.aload_n 2, 1) := by decide +kernel
theorem dL_law_494 : decode cL_law 494 = .ok (.aload_n 0, 1) := by decide +kernel
theorem dL_law_495 : decode cL_law 495 = .ok (.iload 4, 2) := by decide +kernel
theorem dL_law_497 : decode cL_law 497 = .ok (.iconst 1, 1) := by decide +kernel
theorem dL_law_498 : decode cL_law 498 = .ok (.iadd, 1) := by decide +kernel
theorem dL_law_499 : decode cL_law 499 = .ok (.iaload, 1) := by decide +kernel
theorem dL_law_500 : decode cL_law 500 = .ok (.aload_n 0, 1) := by decide +kernel
theorem dL_law_501 : decode cL_law 501 = .ok (.iload 4, 2) := by decide +kernel
theorem dL_law_503 : decode cL_law 503 = .ok (.iconst 2, 1) := by decide +kernel
theorem dL_law_504 : decode cL_law 504 = .ok (.iadd, 1) := by decide +kernel
theorem dL_law_505 : decode cL_law 505 = .ok (.iaload, 1) := by decide +kernel
theorem dL_law_506 : decode cL_law 506 = .ok (.invokevirtual 78, 3) := by decide +kernel
theorem dL_law_509 : decode cL_law 509 = .ok (.if_icmp .eq 937, 3) := by decide +kernel
theorem dL_law_512 : decode cL_law 512 = .ok (.iconst 0, 1) := by decide +kernel
theorem dL_law_513 : decode cL_law 513 = .ok (.ireturn, 1) := by decide +kernel
theorem dL_law_514 : decode cL_law 514 = .ok (.aload_n 1, 1) := by decide +kernel
theorem dL_law_515 : decode cL_law 515 = .ok (.aload_n 0, 1) := by decide +kernel
theorem dL_law_516 : decode cL_law 516 = .ok (.iload 4, 2) := by decide +kernel
theorem dL_law_518 : decode cL_law 518 = .ok (.iconst 1, 1) := by decide +kernel
theorem dL_law_519 : decode cL_law 519 = .ok (.iadd, 1) := by decide +kernel
theorem dL_law_520 : decode cL_law 520 = .ok (.iaload, 1) := by decide +kernel
theorem dL_law_521 : decode cL_law 521 = .ok (.aload_n 0, 1) := by decide +kernel
theorem dL_law_522 : decode cL_law 522 = .ok (.iload 4, 2) := by decide +kernel
theorem dL_law_524 : decode cL_law 524 = .ok (.iconst 2, 1) := by decide +kernel
theorem dL_law_525 : decode cL_law 525 = .ok (.iadd, 1) := by decide +kernel
theorem dL_law_526 : decode cL_law 526 = .ok (.iaload, 1) := by decide +kernel
theorem dL_law_527 : decode cL_law 527 = .ok (.aload_n 0, 1) := by decide +kernel
theorem dL_law_528 : decode cL_law 528 = .ok (.iload 4, 2) := by decide +kernel
theorem dL_law_530 : decode cL_law 530 = .ok (.iconst 3, 1) := by decide +kernel
theorem dL_law_531 : decode cL_law 531 = .ok (.iadd, 1) := by decide +kernel
theorem dL_law_532 : decode cL_law 532 = .ok (.iaload, 1) := by decide +kernel
theorem dL_law_533 : decode cL_law 533 = .ok (.invokevirtual 79, 3) := by decide +kernel
theorem dL_law_536 : decode cL_law 536 = .ok (.aload_n 2, 1) := by decide +kernel
theorem dL_law_537 : decode cL_law 537 = .ok (.aload_n 0, 1) := by decide +kernel
theorem dL_law_538 : decode cL_law 538 = .ok (.iload 4, 2) := by decide +kernel
theorem dL_law_540 : decode cL_law 540 = .ok (.iconst 1, 1) := by decide +kernel
theorem dL_law_541 : decode cL_law 541 = .ok (.iadd, 1) := by decide +kernel
theorem dL_law_542 : decode cL_law 542 = .ok (.iaload, 1) := by decide +kernel
theorem dL_law_543 : decode cL_law 543 = .ok (.aload_n 0, 1) := by decide +kernel
theorem dL_law_544 : decode cL_law 544 = .ok (.iload 4, 2) := by decide +kernel
theorem dL_law_546 : decode cL_law 546 = .ok (.iconst 2, 1) := by decide +kernel
theorem dL_law_547 : decode cL_law 547 = .ok (.iadd, 1) := by decide +kernel
theorem dL_law_548 : decode cL_law 548 = .ok (.iaload, 1) := by decide +kernel
theorem dL_law_549 : decode cL_law 549 = .ok (.aload_n 0, 1) := by decide +kernel
theorem dL_law_550 : decode cL_law 550 = .ok (.iload 4, 2) := by decide +kernel
theorem dL_law_552 : decode cL_law 552 = .ok (.iconst 3, 1) := by decide +kernel
theorem dL_law_553 : decode cL_law 553 = .ok (.iadd, 1) := by decide +kernel
theorem dL_law_554 : decode cL_law 554 = .ok (.iaload, 1) := by decide +kernel
theorem dL_law_555 : decode cL_law 555 = .ok (.invokevirtual 82, 3) := by decide +kernel
theorem dL_law_558 : decode cL_law 558 = .ok (.if_icmp .eq 888, 3) := by decide +kernel
theorem dL_law_561 : decode cL_law 561 = .ok (.iconst 0, 1) := by decide +kernel
theorem dL_law_562 : decode cL_law 562 = .ok (.ireturn, 1) := by decide +kernel
theorem dL_law_563 : decode cL_law 563 = .ok (.aload_n 1, 1) := by decide +kernel
theorem dL_law_564 : decode cL_law 564 = .ok (.aload_n 0, 1) := by decide +kernel
theorem dL_law_565 : decode cL_law 565 = .ok (.iload 4, 2) := by decide +kernel
theorem dL_law_567 : decode cL_law 567 = .ok (.iconst 1, 1) := by decide +kernel
theorem dL_law_568 : decode cL_law 568 = .ok (.iadd, 1) := by decide +kernel
theorem dL_law_569 : decode cL_law 569 = .ok (.iaload, 1) := by decide +kernel
theorem dL_law_570 : decode cL_law 570 = .ok (.aload_n 0, 1) := by decide +kernel
theorem dL_law_571 : decode cL_law 571 = .ok (.iload 4, 2) := by decide +kernel
theorem dL_law_573 : decode cL_law 573 = .ok (.iconst 2, 1) := by decide +kernel
theorem dL_law_574 : decode cL_law 574 = .ok (.iadd, 1) := by decide +kernel
theorem dL_law_575 : decode cL_law 575 = .ok (.iaload, 1) := by decide +kernel
theorem dL_law_576 : decode cL_law 576 = .ok (.invokevirtual 83, 3) := by decide +kernel
theorem dL_law_579 : decode cL_law 579 = .ok (.aload_n 2, 1) := by decide +kernel
theorem dL_law_580 : decode cL_law 580 = .ok (.aload_n 0, 1) := by decide +kernel
theorem dL_law_581 : decode cL_law 581 = .ok (.iload 4, 2) := by decide +kernel
theorem dL_law_583 : decode cL_law 583 = .ok (.iconst 1, 1) := by decide +kernel
theorem dL_law_584 : decode cL_law 584 = .ok (.iadd, 1) := by decide +kernel
theorem dL_law_585 : decode cL_law 585 = .ok (.iaload, 1) := by decide +kernel
theorem dL_law_586 : decode cL_law 586 = .ok (.aload_n 0, 1) := by decide +kernel
theorem dL_law_587 : decode cL_law 587 = .ok (.iload 4, 2) := by decide +kernel
theorem dL_law_589 : decode cL_law 589 = .ok (.iconst 2, 1) := by decide +kernel
theorem dL_law_590 : decode cL_law 590 = .ok (.iadd, 1) := by decide +kernel
theorem dL_law_591 : decode cL_law 591 = .ok (.iaload, 1) := by decide +kernel
theorem dL_law_592 : decode cL_law 592 = .ok (.invokevirtual 86, 3) := by decide +kernel
theorem dL_law_595 : decode cL_law 595 = .ok (.if_icmp .eq 851, 3) := by decide +kernel
theorem dL_law_598 : decode cL_law 598 = .ok (.iconst 0, 1) := by decide +kernel
theorem dL_law_599 : decode cL_law 599 = .ok (.ireturn, 1) := by decide +kernel
theorem dL_law_600 : decode cL_law 600 = .ok (.aload_n 1, 1) := by decide +kernel
theorem dL_law_601 : decode cL_law 601 = .ok (.aload_n 0, 1) := by decide +kernel
theorem dL_law_602 : decode cL_law 602 = .ok (.iload 4, 2) := by decide +kernel
theorem dL_law_604 : decode cL_law 604 = .ok (.iconst 1, 1) := by decide +kernel
theorem dL_law_605 : decode cL_law 605 = .ok (.iadd, 1) := by decide +kernel
theorem dL_law_606 : decode cL_law 606 = .ok (.iaload, 1) := by decide +kernel
theorem dL_law_607 : decode cL_law 607 = .ok (.invokevirtual 87, 3) := by decide +kernel
theorem dL_law_610 : decode cL_law 610 = .ok (.aload_n 2, 1) := by decide +kernel
theorem dL_law_611 : decode cL_law 611 = .ok (.aload_n 0, 1) := by decide +kernel
theorem dL_law_612 : decode cL_law 612 = .ok (.iload 4, 2) := by decide +kernel
theorem dL_law_614 : decode cL_law 614 = .ok (.iconst 1, 1) := by decide +kernel
theorem dL_law_615 : decode cL_law 615 = .ok (.iadd, 1) := by decide +kernel
theorem dL_law_616 : decode cL_law 616 = .ok (.iaload, 1) := by decide +kernel
theorem dL_law_617 : decode cL_law 617 = .ok (.invokevirtual 90, 3) := by decide +kernel
theorem dL_law_620 : decode cL_law 620 = .ok (.lcmp, 1) := by decide +kernel
theorem dL_law_621 : decode cL_law 621 = .ok (.ifCond .eq 825, 3) := by decide +kernel
theorem dL_law_624 : decode cL_law 624 = .ok (.iconst 0, 1) := by decide +kernel
theorem dL_law_625 : decode cL_law 625 = .ok (.ireturn, 1) := by decide +kernel
theorem dL_law_626 : decode cL_law 626 = .ok (.aload_n 1, 1) := by decide +kernel
theorem dL_law_627 : decode cL_law 627 = .ok (.aload_n 0, 1) := by decide +kernel
theorem dL_law_628 : decode cL_law 628 = .ok (.iload 4, 2) := by decide +kernel
theorem dL_law_630 : decode cL_law 630 = .ok (.iconst 1, 1) := by decide +kernel
theorem dL_law_631 : decode cL_law 631 = .ok (.iadd, 1) := by decide +kernel
theorem dL_law_632 : decode cL_law 632 = .ok (.iaload, 1) := by decide +kernel
theorem dL_law_633 : decode cL_law 633 = .ok (.aload_n 0, 1) := by decide +kernel
theorem dL_law_634 : decode cL_law 634 = .ok (.iload 4, 2) := by decide +kernel
theorem dL_law_636 : decode cL_law 636 = .ok (.iconst 2, 1) := by decide +kernel
theorem dL_law_637 : decode cL_law 637 = .ok (.iadd, 1) := by decide +kernel
theorem dL_law_638 : decode cL_law 638 = .ok (.iaload, 1) := by decide +kernel
theorem dL_law_639 : decode cL_law 639 = .ok (.i2l, 1) := by decide +kernel
theorem dL_law_640 : decode cL_law 640 = .ok (.bipush 32, 2) := by decide +kernel
theorem dL_law_642 : decode cL_law 642 = .ok (.lshl, 1) := by decide +kernel
theorem dL_law_643 : decode cL_law 643 = .ok (.aload_n 0, 1) := by decide +kernel
theorem dL_law_644 : decode cL_law 644 = .ok (.iload 4, 2) := by decide +kernel
theorem dL_law_646 : decode cL_law 646 = .ok (.iconst 3, 1) := by decide +kernel
theorem dL_law_647 : decode cL_law 647 = .ok (.iadd, 1) := by decide +kernel
theorem dL_law_648 : decode cL_law 648 = .ok (.iaload, 1) := by decide +kernel
theorem dL_law_649 : decode cL_law 649 = .ok (.i2l, 1) := by decide +kernel
theorem dL_law_650 : decode cL_law 650 = .ok (.ldc2_w 50, 3) := by decide +kernel
theorem dL_law_653 : decode cL_law 653 = .ok (.land, 1) := by decide +kernel
theorem dL_law_654 : decode cL_law 654 = .ok (.lor, 1) := by decide +kernel
theorem dL_law_655 : decode cL_law 655 = .ok (.aload_n 3, 1) := by decide +kernel
theorem dL_law_656 : decode cL_law 656 = .ok (.invokestatic 91, 3) := by decide +kernel
theorem dL_law_659 : decode cL_law 659 = .ok (.istore 5, 2) := by decide +kernel
theorem dL_law_661 : decode cL_law 661 = .ok (.aload_n 2, 1) := by decide +kernel
theorem dL_law_662 : decode cL_law 662 = .ok (.aload_n 0, 1) := by decide +kernel
theorem dL_law_663 : decode cL_law 663 = .ok (.iload 4, 2) := by decide +kernel
theorem dL_law_665 : decode cL_law 665 = .ok (.iconst 1, 1) := by decide +kernel
theorem dL_law_666 : decode cL_law 666 = .ok (.iadd, 1) := by decide +kernel
theorem dL_law_667 : decode cL_law 667 = .ok (.iaload, 1) := by decide +kernel
theorem dL_law_668 : decode cL_law 668 = .ok (.aload_n 0, 1) := by decide +kernel
theorem dL_law_669 : decode cL_law 669 = .ok (.iload 4, 2) := by decide +kernel
theorem dL_law_671 : decode cL_law 671 = .ok (.iconst 2, 1) := by decide +kernel
theorem dL_law_672 : decode cL_law 672 = .ok (.iadd, 1) := by decide +kernel
theorem dL_law_673 : decode cL_law 673 = .ok (.iaload, 1) := by decide +kernel
theorem dL_law_674 : decode cL_law 674 = .ok (.i2l, 1) := by decide +kernel
theorem dL_law_675 : decode cL_law 675 = .ok (.bipush 32, 2) := by decide +kernel
theorem dL_law_677 : decode cL_law 677 = .ok (.lshl, 1) := by decide +kernel
theorem dL_law_678 : decode cL_law 678 = .ok (.aload_n 0, 1) := by decide +kernel
theorem dL_law_679 : decode cL_law 679 = .ok (.iload 4, 2) := by decide +kernel
theorem dL_law_681 : decode cL_law 681 = .ok (.iconst 3, 1) := by decide +kernel
theorem dL_law_682 : decode cL_law 682 = .ok (.iadd, 1) := by decide +kernel
theorem dL_law_683 : decode cL_law 683 = .ok (.iaload, 1) := by decide +kernel
theorem dL_law_684 : decode cL_law 684 = .ok (.i2l, 1) := by decide +kernel
theorem dL_law_685 : decode cL_law 685 = .ok (.ldc2_w 50, 3) := by decide +kernel
theorem dL_law_688 : decode cL_law 688 = .ok (.land, 1) := by decide +kernel
theorem dL_law_689 : decode cL_law 689 = .ok (.lor, 1) := by decide +kernel
theorem dL_law_690 : decode cL_law 690 = .ok (.invokevirtual 96, 3) := by decide +kernel
theorem dL_law_693 : decode cL_law 693 = .ok (.lstore 6, 2) := by decide +kernel
theorem dL_law_695 : decode cL_law 695 = .ok (.aload_n 2, 1) := by decide +kernel
theorem dL_law_696 : decode cL_law 696 = .ok (.invokevirtual 97, 3) := by decide +kernel
theorem dL_law_699 : decode cL_law 699 = .ok (.iload 5, 2) := by decide +kernel
theorem dL_law_701 : decode cL_law 701 = .ok (.if_icmp .eq 5, 3) := by decide +kernel
theorem dL_law_704 : decode cL_law 704 = .ok (.iconst 0, 1) := by decide +kernel
theorem dL_law_705 : decode cL_law 705 = .ok (.ireturn, 1) := by decide +kernel
theorem dL_law_706 : decode cL_law 706 = .ok (.iload 5, 2) := by decide +kernel
theorem dL_law_708 : decode cL_law 708 = .ok (.ifCond .ne 14, 3) := by decide +kernel
theorem dL_law_711 : decode cL_law 711 = .ok (.aload_n 3, 1) := by decide +kernel
theorem dL_law_712 : decode cL_law 712 = .ok (.iconst 0, 1) := by decide +kernel
theorem dL_law_713 : decode cL_law 713 = .ok (.laload, 1) := by decide +kernel
theorem dL_law_714 : decode cL_law 714 = .ok (.lload 6, 2) := by decide +kernel
theorem dL_law_716 : decode cL_law 716 = .ok (.lcmp, 1) := by decide +kernel
theorem dL_law_717 : decode cL_law 717 = .ok (.ifCond .eq 5, 3) := by decide +kernel
theorem dL_law_720 : decode cL_law 720 = .ok (.iconst 0, 1) := by decide +kernel
theorem dL_law_721 : decode cL_law 721 = .ok (.ireturn, 1) := by decide +kernel
theorem dL_law_722 : decode cL_law 722 = .ok (.goto 724, 3) := by decide +kernel
theorem dL_law_725 : decode cL_law 725 = .ok (.aload_n 1, 1) := by decide +kernel
theorem dL_law_726 : decode cL_law 726 = .ok (.aload_n 0, 1) := by decide +kernel
theorem dL_law_727 : decode cL_law 727 = .ok (.iload 4, 2) := by decide +kernel
theorem dL_law_729 : decode cL_law 729 = .ok (.iconst 1, 1) := by decide +kernel
theorem dL_law_730 : decode cL_law 730 = .ok (.iadd, 1) := by decide +kernel
theorem dL_law_731 : decode cL_law 731 = .ok (.iaload, 1) := by decide +kernel
theorem dL_law_732 : decode cL_law 732 = .ok (.aload_n 3, 1) := by decide +kernel
theorem dL_law_733 : decode cL_law 733 = .ok (.invokestatic 101, 3) := by decide +kernel
theorem dL_law_736 : decode cL_law 736 = .ok (.istore 5, 2) := by decide +kernel
theorem dL_law_738 : decode cL_law 738 = .ok (.aload_n 2, 1) := by decide +kernel
theorem dL_law_739 : decode cL_law 739 = .ok (.aload_n 0, 1) := by decide +kernel
theorem dL_law_740 : decode cL_law 740 = .ok (.iload 4, 2) := by decide +kernel
theorem dL_law_742 : decode cL_law 742 = .ok (.iconst 1, 1) := by decide +kernel
theorem dL_law_743 : decode cL_law 743 = .ok (.iadd, 1) := by decide +kernel
theorem dL_law_744 : decode cL_law 744 = .ok (.iaload, 1) := by decide +kernel
theorem dL_law_745 : decode cL_law 745 = .ok (.invokevirtual 104, 3) := by decide +kernel
theorem dL_law_748 : decode cL_law 748 = .ok (.lstore 6, 2) := by decide +kernel
theorem dL_law_750 : decode cL_law 750 = .ok (.aload_n 2, 1) := by decide +kernel
theorem dL_law_751 : decode cL_law 751 = .ok (.invokevirtual 97, 3) := by decide +kernel
theorem dL_law_754 : decode cL_law 754 = .ok (.iload 5, 2) := by decide +kernel
theorem dL_law_756 : decode cL_law 756 = .ok (.if_icmp .eq 5, 3) := by decide +kernel
theorem dL_law_759 : decode cL_law 759 = .ok (.iconst 0, 1) := by decide +kernel
theorem dL_law_760 : decode cL_law 760 = .ok (.ireturn, 1) := by decide +kernel
theorem dL_law_761 : decode cL_law 761 = .ok (.iload 5, 2) := by decide +kernel
theorem dL_law_763 : decode cL_law 763 = .ok (.ifCond .ne 14, 3) := by decide +kernel
theorem dL_law_766 : decode cL_law 766 = .ok (.aload_n 3, 1) := by decide +kernel
theorem dL_law_767 : decode cL_law 767 = .ok (.iconst 0, 1) := by decide +kernel
theorem dL_law_768 : decode cL_law 768 = .ok (.laload, 1) := by decide +kernel
theorem dL_law_769 : decode cL_law 769 = .ok (.lload 6, 2) := by decide +kernel
theorem dL_law_771 : decode cL_law 771 = .ok (.lcmp, 1) := by decide +kernel
theorem dL_law_772 : decode cL_law 772 = .ok (.ifCond .eq 5, 3) := by decide +kernel
theorem dL_law_775 : decode cL_law 775 = .ok (.iconst 0, 1) := by decide +kernel
theorem dL_law_776 : decode cL_law 776 = .ok (.ireturn, 1) := by decide +kernel
theorem dL_law_777 : decode cL_law 777 = .ok (.goto 669, 3) := by decide +kernel
theorem dL_law_780 : decode cL_law 780 = .ok (.aload_n 1, 1) := by decide +kernel
theorem dL_law_781 : decode cL_law 781 = .ok (.aload_n 0, 1) := by decide +kernel
theorem dL_law_782 : decode cL_law 782 = .ok (.iload 4, 2) := by decide +kernel
theorem dL_law_784 : decode cL_law 784 = .ok (.iconst 1, 1) := by decide +kernel
theorem dL_law_785 : decode cL_law 785 = .ok (.iadd, 1) := by decide +kernel
theorem dL_law_786 : decode cL_law 786 = .ok (.iaload, 1) := by decide +kernel
theorem dL_law_787 : decode cL_law 787 = .ok (.aload_n 3, 1) := by decide +kernel
theorem dL_law_788 : decode cL_law 788 = .ok (.invokestatic 105, 3) := by decide +kernel
theorem dL_law_791 : decode cL_law 791 = .ok (.istore 5, 2) := by decide +kernel
theorem dL_law_793 : decode cL_law 793 = .ok (.aload_n 2, 1) := by decide +kernel
theorem dL_law_794 : decode cL_law 794 = .ok (.aload_n 0, 1) := by decide +kernel
theorem dL_law_795 : decode cL_law 795 = .ok (.iload 4, 2) := by decide +kernel
theorem dL_law_797 : decode cL_law 797 = .ok (.iconst 1, 1) := by decide +kernel
theorem dL_law_798 : decode cL_law 798 = .ok (.iadd, 1) := by decide +kernel
theorem dL_law_799 : decode cL_law 799 = .ok (.iaload, 1) := by decide +kernel
theorem dL_law_800 : decode cL_law 800 = .ok (.invokevirtual 107, 3) := by decide +kernel
theorem dL_law_803 : decode cL_law 803 = .ok (.lstore 6, 2) := by decide +kernel
theorem dL_law_805 : decode cL_law 805 = .ok (.aload_n 2, 1) := by decide +kernel
theorem dL_law_806 : decode cL_law 806 = .ok (.invokevirtual 97, 3) := by decide +kernel
theorem dL_law_809 : decode cL_law 809 = .ok (.iload 5, 2) := by decide +kernel
theorem dL_law_811 : decode cL_law 811 = .ok (.if_icmp .eq 5, 3) := by decide +kernel
theorem dL_law_814 : decode cL_law 814 = .ok (.iconst 0, 1) := by decide +kernel
theorem dL_law_815 : decode cL_law 815 = .ok (.ireturn, 1) := by decide +kernel
theorem dL_law_816 : decode cL_law 816 = .ok (.iload 5, 2) := by decide +kernel
theorem dL_law_818 : decode cL_law 818 = .ok (.ifCond .ne 14, 3) := by decide +kernel
theorem dL_law_821 : decode cL_law 821 = .ok (.aload_n 3, 1) := by decide +kernel
theorem dL_law_822 : decode cL_law 822 = .ok (.iconst 0, 1) := by decide +kernel
theorem dL_law_823 : decode cL_law 823 = .ok (.laload, 1) := by decide +kernel
theorem dL_law_824 : decode cL_law 824 = .ok (.lload 6, 2) := by decide +kernel
theorem dL_law_826 : decode cL_law 826 = .ok (.lcmp, 1) := by decide +kernel
theorem dL_law_827 : decode cL_law 827 = .ok (.ifCond .eq 5, 3) := by decide +kernel
theorem dL_law_830 : decode cL_law 830 = .ok (.iconst 0, 1) := by decide +kernel
theorem dL_law_831 : decode cL_law 831 = .ok (.ireturn, 1) := by decide +kernel
theorem dL_law_832 : decode cL_law 832 = .ok (.goto 614, 3) := by decide +kernel
theorem dL_law_835 : decode cL_law 835 = .ok (.aload_n 1, 1) := by decide +kernel
theorem dL_law_836 : decode cL_law 836 = .ok (.aload_n 0, 1) := by decide +kernel
theorem dL_law_837 : decode cL_law 837 = .ok (.iload 4, 2) := by decide +kernel
theorem dL_law_839 : decode cL_law 839 = .ok (.iconst 1, 1) := by decide +kernel
theorem dL_law_840 : decode cL_law 840 = .ok (.iadd, 1) := by decide +kernel
theorem dL_law_841 : decode cL_law 841 = .ok (.iaload, 1) := by decide +kernel
theorem dL_law_842 : decode cL_law 842 = .ok (.invokevirtual 108, 3) := by decide +kernel
theorem dL_law_845 : decode cL_law 845 = .ok (.aload_n 2, 1) := by decide +kernel
theorem dL_law_846 : decode cL_law 846 = .ok (.aload_n 0, 1) := by decide +kernel
theorem dL_law_847 : decode cL_law 847 = .ok (.iload 4, 2) := by decide +kernel
theorem dL_law_849 : decode cL_law 849 = .ok (.iconst 1, 1) := by decide +kernel
theorem dL_law_850 : decode cL_law 850 = .ok (.iadd, 1) := by decide +kernel
theorem dL_law_851 : decode cL_law 851 = .ok (.iaload, 1) := by decide +kernel
theorem dL_law_852 : decode cL_law 852 = .ok (.invokevirtual 111, 3) := by decide +kernel
theorem dL_law_855 : decode cL_law 855 = .ok (.if_icmp .eq 591, 3) := by decide +kernel
theorem dL_law_858 : decode cL_law 858 = .ok (.iconst 0, 1) := by decide +kernel
theorem dL_law_859 : decode cL_law 859 = .ok (.ireturn, 1) := by decide +kernel
theorem dL_law_860 : decode cL_law 860 = .ok (.aload_n 1, 1) := by decide +kernel
theorem dL_law_861 : decode cL_law 861 = .ok (.aload_n 0, 1) := by decide +kernel
theorem dL_law_862 : decode cL_law 862 = .ok (.iload 4, 2) := by decide +kernel
theorem dL_law_864 : decode cL_law 864 = .ok (.iconst 1, 1) := by decide +kernel
theorem dL_law_865 : decode cL_law 865 = .ok (.iadd, 1) := by decide +kernel
theorem dL_law_866 : decode cL_law 866 = .ok (.iaload, 1) := by decide +kernel
theorem dL_law_867 : decode cL_law 867 = .ok (.aload_n 0, 1) := by decide +kernel
theorem dL_law_868 : decode cL_law 868 = .ok (.iload 4, 2) := by decide +kernel
theorem dL_law_870 : decode cL_law 870 = .ok (.iconst 2, 1) := by decide +kernel
theorem dL_law_871 : decode cL_law 871 = .ok (.iadd, 1) := by decide +kernel
theorem dL_law_872 : decode cL_law 872 = .ok (.iaload, 1) := by decide +kernel
theorem dL_law_873 : decode cL_law 873 = .ok (.i2l, 1) := by decide +kernel
theorem dL_law_874 : decode cL_law 874 = .ok (.bipush 32, 2) := by decide +kernel
theorem dL_law_876 : decode cL_law 876 = .ok (.lshl, 1) := by decide +kernel
theorem dL_law_877 : decode cL_law 877 = .ok (.aload_n 0, 1) := by decide +kernel
theorem dL_law_878 : decode cL_law 878 = .ok (.iload 4, 2) := by decide +kernel
theorem dL_law_880 : decode cL_law 880 = .ok (.iconst 3, 1) := by decide +kernel
theorem dL_law_881 : decode cL_law 881 = .ok (.iadd, 1) := by decide +kernel
theorem dL_law_882 : decode cL_law 882 = .ok (.iaload, 1) := by decide +kernel
theorem dL_law_883 : decode cL_law 883 = .ok (.i2l, 1) := by decide +kernel
theorem dL_law_884 : decode cL_law 884 = .ok (.ldc2_w 50, 3) := by decide +kernel
theorem dL_law_887 : decode cL_law 887 = .ok (.land, 1) := by decide +kernel
theorem dL_law_888 : decode cL_law 888 = .ok (.lor, 1) := by decide +kernel
theorem dL_law_889 : decode cL_law 889 = .ok (.aload_n 3, 1) := by decide +kernel
theorem dL_law_890 : decode cL_law 890 = .ok (.invokestatic 112, 3) := by decide +kernel
theorem dL_law_893 : decode cL_law 893 = .ok (.istore 5, 2) := by decide +kernel
theorem dL_law_895 : decode cL_law 895 = .ok (.aload_n 2, 1) := by decide +kernel
theorem dL_law_896 : decode cL_law 896 = .ok (.aload_n 0, 1) := by decide +kernel
theorem dL_law_897 : decode cL_law 897 = .ok (.iload 4, 2) := by decide +kernel
theorem dL_law_899 : decode cL_law 899 = .ok (.iconst 1, 1) := by decide +kernel
theorem dL_law_900 : decode cL_law 900 = .ok (.iadd, 1) := by decide +kernel
theorem dL_law_901 : decode cL_law 901 = .ok (.iaload, 1) := by decide +kernel
theorem dL_law_902 : decode cL_law 902 = .ok (.aload_n 0, 1) := by decide +kernel
theorem dL_law_903 : decode cL_law 903 = .ok (.iload 4, 2) := by decide +kernel
theorem dL_law_905 : decode cL_law 905 = .ok (.iconst 2, 1) := by decide +kernel
theorem dL_law_906 : decode cL_law 906 = .ok (.iadd, 1) := by decide +kernel
theorem dL_law_907 : decode cL_law 907 = .ok (.iaload, 1) := by decide +kernel
theorem dL_law_908 : decode cL_law 908 = .ok (.i2l, 1) := by decide +kernel
theorem dL_law_909 : decode cL_law 909 = .ok (.bipush 32, 2) := by decide +kernel
theorem dL_law_911 : decode cL_law 911 = .ok (.lshl, 1) := by decide +kernel
theorem dL_law_912 : decode cL_law 912 = .ok (.aload_n 0, 1) := by decide +kernel
theorem dL_law_913 : decode cL_law 913 = .ok (.iload 4, 2) := by decide +kernel
theorem dL_law_915 : decode cL_law 915 = .ok (.iconst 3, 1) := by decide +kernel
theorem dL_law_916 : decode cL_law 916 = .ok (.iadd, 1) := by decide +kernel
theorem dL_law_917 : decode cL_law 917 = .ok (.iaload, 1) := by decide +kernel
theorem dL_law_918 : decode cL_law 918 = .ok (.i2l, 1) := by decide +kernel
theorem dL_law_919 : decode cL_law 919 = .ok (.ldc2_w 50, 3) := by decide +kernel
theorem dL_law_922 : decode cL_law 922 = .ok (.land, 1) := by decide +kernel
theorem dL_law_923 : decode cL_law 923 = .ok (.lor, 1) := by decide +kernel
theorem dL_law_924 : decode cL_law 924 = .ok (.invokevirtual 114, 3) := by decide +kernel
theorem dL_law_927 : decode cL_law 927 = .ok (.istore 6, 2) := by decide +kernel
theorem dL_law_929 : decode cL_law 929 = .ok (.aload_n 2, 1) := by decide +kernel
theorem dL_law_930 : decode cL_law 930 = .ok (.invokevirtual 97, 3) := by decide +kernel
theorem dL_law_933 : decode cL_law 933 = .ok (.iload 5, 2) := by decide +kernel
theorem dL_law_935 : decode cL_law 935 = .ok (.if_icmp .eq 5, 3) := by decide +kernel
theorem dL_law_938 : decode cL_law 938 = .ok (.iconst 0, 1) := by decide +kernel
theorem dL_law_939 : decode cL_law 939 = .ok (.ireturn, 1) := by decide +kernel
theorem dL_law_940 : decode cL_law 940 = .ok (.iload 5, 2) := by decide +kernel
theorem dL_law_942 : decode cL_law 942 = .ok (.ifCond .ne 15, 3) := by decide +kernel
theorem dL_law_945 : decode cL_law 945 = .ok (.aload_n 3, 1) := by decide +kernel
theorem dL_law_946 : decode cL_law 946 = .ok (.iconst 0, 1) := by decide +kernel
theorem dL_law_947 : decode cL_law 947 = .ok (.laload, 1) := by decide +kernel
theorem dL_law_948 : decode cL_law 948 = .ok (.iload 6, 2) := by decide +kernel
theorem dL_law_950 : decode cL_law 950 = .ok (.i2l, 1) := by decide +kernel
theorem dL_law_951 : decode cL_law 951 = .ok (.lcmp, 1) := by decide +kernel
theorem dL_law_952 : decode cL_law 952 = .ok (.ifCond .eq 5, 3) := by decide +kernel
theorem dL_law_955 : decode cL_law 955 = .ok (.iconst 0, 1) := by decide +kernel
theorem dL_law_956 : decode cL_law 956 = .ok (.ireturn, 1) := by decide +kernel
theorem dL_law_957 : decode cL_law 957 = .ok (.goto 489, 3) := by decide +kernel
theorem dL_law_960 : decode cL_law 960 = .ok (.aload_n 1, 1) := by decide +kernel
theorem dL_law_961 : decode cL_law 961 = .ok (.aload_n 0, 1) := by decide +kernel
theorem dL_law_962 : decode cL_law 962 = .ok (.iload 4, 2) := by decide +kernel
theorem dL_law_964 : decode cL_law 964 = .ok (.iconst 1, 1) := by decide +kernel
theorem dL_law_965 : decode cL_law 965 = .ok (.iadd, 1) := by decide +kernel
theorem dL_law_966 : decode cL_law 966 = .ok (.iaload, 1) := by decide +kernel
theorem dL_law_967 : decode cL_law 967 = .ok (.aload_n 0, 1) := by decide +kernel
theorem dL_law_968 : decode cL_law 968 = .ok (.iload 4, 2) := by decide +kernel
theorem dL_law_970 : decode cL_law 970 = .ok (.iconst 2, 1) := by decide +kernel
theorem dL_law_971 : decode cL_law 971 = .ok (.iadd, 1) := by decide +kernel
theorem dL_law_972 : decode cL_law 972 = .ok (.iaload, 1) := by decide +kernel
theorem dL_law_973 : decode cL_law 973 = .ok (.i2l, 1) := by decide +kernel
theorem dL_law_974 : decode cL_law 974 = .ok (.bipush 32, 2) := by decide +kernel
theorem dL_law_976 : decode cL_law 976 = .ok (.lshl, 1) := by decide +kernel
theorem dL_law_977 : decode cL_law 977 = .ok (.aload_n 0, 1) := by decide +kernel
theorem dL_law_978 : decode cL_law 978 = .ok (.iload 4, 2) := by decide +kernel
theorem dL_law_980 : decode cL_law 980 = .ok (.iconst 3, 1) := by decide +kernel
theorem dL_law_981 : decode cL_law 981 = .ok (.iadd, 1) := by decide +kernel
theorem dL_law_982 : decode cL_law 982 = .ok (.iaload, 1) := by decide +kernel
theorem dL_law_983 : decode cL_law 983 = .ok (.i2l, 1) := by decide +kernel
theorem dL_law_984 : decode cL_law 984 = .ok (.ldc2_w 50, 3) := by decide +kernel
theorem dL_law_987 : decode cL_law 987 = .ok (.land, 1) := by decide +kernel
theorem dL_law_988 : decode cL_law 988 = .ok (.lor, 1) := by decide +kernel
theorem dL_law_989 : decode cL_law 989 = .ok (.aload_n 3, 1) := by decide +kernel
theorem dL_law_990 : decode cL_law 990 = .ok (.invokestatic 115, 3) := by decide +kernel
theorem dL_law_993 : decode cL_law 993 = .ok (.istore 5, 2) := by decide +kernel
theorem dL_law_995 : decode cL_law 995 = .ok (.aload_n 2, 1) := by decide +kernel
theorem dL_law_996 : decode cL_law 996 = .ok (.aload_n 0, 1) := by decide +kernel
theorem dL_law_997 : decode cL_law 997 = .ok (.iload 4, 2) := by decide +kernel
theorem dL_law_999 : decode cL_law 999 = .ok (.iconst 1, 1) := by decide +kernel
theorem dL_law_1000 : decode cL_law 1000 = .ok (.iadd, 1) := by decide +kernel
theorem dL_law_1001 : decode cL_law 1001 = .ok (.iaload, 1) := by decide +kernel
theorem dL_law_1002 : decode cL_law 1002 = .ok (.aload_n 0, 1) := by decide +kernel
theorem dL_law_1003 : decode cL_law 1003 = .ok (.iload 4, 2) := by decide +kernel
theorem dL_law_1005 : decode cL_law 1005 = .ok (.iconst 2, 1) := by decide +kernel
theorem dL_law_1006 : decode cL_law 1006 = .ok (.iadd, 1) := by decide +kernel
theorem dL_law_1007 : decode cL_law 1007 = .ok (.iaload, 1) := by decide +kernel
theorem dL_law_1008 : decode cL_law 1008 = .ok (.i2l, 1) := by decide +kernel
theorem dL_law_1009 : decode cL_law 1009 = .ok (.bipush 32, 2) := by decide +kernel
theorem dL_law_1011 : decode cL_law 1011 = .ok (.lshl, 1) := by decide +kernel
theorem dL_law_1012 : decode cL_law 1012 = .ok (.aload_n 0, 1) := by decide +kernel
theorem dL_law_1013 : decode cL_law 1013 = .ok (.iload 4, 2) := by decide +kernel
theorem dL_law_1015 : decode cL_law 1015 = .ok (.iconst 3, 1) := by decide +kernel
theorem dL_law_1016 : decode cL_law 1016 = .ok (.iadd, 1) := by decide +kernel
theorem dL_law_1017 : decode cL_law 1017 = .ok (.iaload, 1) := by decide +kernel
theorem dL_law_1018 : decode cL_law 1018 = .ok (.i2l, 1) := by decide +kernel
theorem dL_law_1019 : decode cL_law 1019 = .ok (.ldc2_w 50, 3) := by decide +kernel
theorem dL_law_1022 : decode cL_law 1022 = .ok (.land, 1) := by decide +kernel
theorem dL_law_1023 : decode cL_law 1023 = .ok (.lor, 1) := by decide +kernel
theorem dL_law_1024 : decode cL_law 1024 = .ok (.invokevirtual 117, 3) := by decide +kernel
theorem dL_law_1027 : decode cL_law 1027 = .ok (.lstore 6, 2) := by decide +kernel
theorem dL_law_1029 : decode cL_law 1029 = .ok (.aload_n 2, 1) := by decide +kernel
theorem dL_law_1030 : decode cL_law 1030 = .ok (.invokevirtual 97, 3) := by decide +kernel
theorem dL_law_1033 : decode cL_law 1033 = .ok (.iload 5, 2) := by decide +kernel
theorem dL_law_1035 : decode cL_law 1035 = .ok (.if_icmp .eq 5, 3) := by decide +kernel
theorem dL_law_1038 : decode cL_law 1038 = .ok (.iconst 0, 1) := by decide +kernel
theorem dL_law_1039 : decode cL_law 1039 = .ok (.ireturn, 1) := by decide +kernel
theorem dL_law_1040 : decode cL_law 1040 = .ok (.iload 5, 2) := by decide +kernel
theorem dL_law_1042 : decode cL_law 1042 = .ok (.ifCond .ne 14, 3) := by decide +kernel
theorem dL_law_1045 : decode cL_law 1045 = .ok (.aload_n 3, 1) := by decide +kernel
theorem dL_law_1046 : decode cL_law 1046 = .ok (.iconst 0, 1) := by decide +kernel
theorem dL_law_1047 : decode cL_law 1047 = .ok (.laload, 1) := by decide +kernel
theorem dL_law_1048 : decode cL_law 1048 = .ok (.lload 6, 2) := by decide +kernel
theorem dL_law_1050 : decode cL_law 1050 = .ok (.lcmp, 1) := by decide +kernel
theorem dL_law_1051 : decode cL_law 1051 = .ok (.ifCond .eq 5, 3) := by decide +kernel
theorem dL_law_1054 : decode cL_law 1054 = .ok (.iconst 0, 1) := by decide +kernel
theorem dL_law_1055 : decode cL_law 1055 = .ok (.ireturn, 1) := by decide +kernel
theorem dL_law_1056 : decode cL_law 1056 = .ok (.goto 390, 3) := by decide +kernel
theorem dL_law_1059 : decode cL_law 1059 = .ok (.aload_n 1, 1) := by decide +kernel
theorem dL_law_1060 : decode cL_law 1060 = .ok (.aload_n 0, 1) := by decide +kernel
theorem dL_law_1061 : decode cL_law 1061 = .ok (.iload 4, 2) := by decide +kernel
theorem dL_law_1063 : decode cL_law 1063 = .ok (.iconst 1, 1) := by decide +kernel
theorem dL_law_1064 : decode cL_law 1064 = .ok (.iadd, 1) := by decide +kernel
theorem dL_law_1065 : decode cL_law 1065 = .ok (.iaload, 1) := by decide +kernel
theorem dL_law_1066 : decode cL_law 1066 = .ok (.invokevirtual 118, 3) := by decide +kernel
theorem dL_law_1069 : decode cL_law 1069 = .ok (.aload_n 2, 1) := by decide +kernel
theorem dL_law_1070 : decode cL_law 1070 = .ok (.aload_n 0, 1) := by decide +kernel
theorem dL_law_1071 : decode cL_law 1071 = .ok (.iload 4, 2) := by decide +kernel
theorem dL_law_1073 : decode cL_law 1073 = .ok (.iconst 1, 1) := by decide +kernel
theorem dL_law_1074 : decode cL_law 1074 = .ok (.iadd, 1) := by decide +kernel
theorem dL_law_1075 : decode cL_law 1075 = .ok (.iaload, 1) := by decide +kernel
theorem dL_law_1076 : decode cL_law 1076 = .ok (.invokevirtual 121, 3) := by decide +kernel
theorem dL_law_1079 : decode cL_law 1079 = .ok (.if_icmp .eq 367, 3) := by decide +kernel
theorem dL_law_1082 : decode cL_law 1082 = .ok (.iconst 0, 1) := by decide +kernel
theorem dL_law_1083 : decode cL_law 1083 = .ok (.ireturn, 1) := by decide +kernel
theorem dL_law_1084 : decode cL_law 1084 = .ok (.aload_n 1, 1) := by decide +kernel
theorem dL_law_1085 : decode cL_law 1085 = .ok (.aload_n 0, 1) := by decide +kernel
theorem dL_law_1086 : decode cL_law 1086 = .ok (.iload 4, 2) := by decide +kernel
theorem dL_law_1088 : decode cL_law 1088 = .ok (.iconst 1, 1) := by decide +kernel
theorem dL_law_1089 : decode cL_law 1089 = .ok (.iadd, 1) := by decide +kernel
theorem dL_law_1090 : decode cL_law 1090 = .ok (.iaload, 1) := by decide +kernel
theorem dL_law_1091 : decode cL_law 1091 = .ok (.aload_n 0, 1) := by decide +kernel
theorem dL_law_1092 : decode cL_law 1092 = .ok (.iload 4, 2) := by decide +kernel
theorem dL_law_1094 : decode cL_law 1094 = .ok (.iconst 2, 1) := by decide +kernel
theorem dL_law_1095 : decode cL_law 1095 = .ok (.iadd, 1) := by decide +kernel
theorem dL_law_1096 : decode cL_law 1096 = .ok (.iaload, 1) := by decide +kernel
theorem dL_law_1097 : decode cL_law 1097 = .ok (.invokevirtual 122, 3) := by decide +kernel
theorem dL_law_1100 : decode cL_law 1100 = .ok (.aload_n 2, 1) := by decide +kernel
theorem dL_law_1101 : decode cL_law 1101 = .ok (.aload_n 0, 1) := by decide +kernel
theorem dL_law_1102 : decode cL_law 1102 = .ok (.iload 4, 2) := by decide +kernel
theorem dL_law_1104 : decode cL_law 1104 = .ok (.iconst 1, 1) := by decide +kernel
theorem dL_law_1105 : decode cL_law 1105 = .ok (.iadd, 1) := by decide +kernel
theorem dL_law_1106 : decode cL_law 1106 = .ok (.iaload, 1) := by decide +kernel
theorem dL_law_1107 : decode cL_law 1107 = .ok (.aload_n 0, 1) := by decide +kernel
theorem dL_law_1108 : decode cL_law 1108 = .ok (.iload 4, 2) := by decide +kernel
theorem dL_law_1110 : decode cL_law 1110 = .ok (.iconst 2, 1) := by decide +kernel
theorem dL_law_1111 : decode cL_law 1111 = .ok (.iadd, 1) := by decide +kernel
theorem dL_law_1112 : decode cL_law 1112 = .ok (.iaload, 1) := by decide +kernel
theorem dL_law_1113 : decode cL_law 1113 = .ok (.invokevirtual 125, 3) := by decide +kernel
theorem dL_law_1116 : decode cL_law 1116 = .ok (.if_icmp .eq 330, 3) := by decide +kernel
theorem dL_law_1119 : decode cL_law 1119 = .ok (.iconst 0, 1) := by decide +kernel
theorem dL_law_1120 : decode cL_law 1120 = .ok (.ireturn, 1) := by decide +kernel
theorem dL_law_1121 : decode cL_law 1121 = .ok (.aload_n 1, 1) := by decide +kernel
theorem dL_law_1122 : decode cL_law 1122 = .ok (.aload_n 0, 1) := by decide +kernel
theorem dL_law_1123 : decode cL_law 1123 = .ok (.iload 4, 2) := by decide +kernel
theorem dL_law_1125 : decode cL_law 1125 = .ok (.iconst 1, 1) := by decide +kernel
theorem dL_law_1126 : decode cL_law 1126 = .ok (.iadd, 1) := by decide +kernel
theorem dL_law_1127 : decode cL_law 1127 = .ok (.iaload, 1) := by decide +kernel
theorem dL_law_1128 : decode cL_law 1128 = .ok (.aload_n 3, 1) := by decide +kernel
theorem dL_law_1129 : decode cL_law 1129 = .ok (.invokestatic 126, 3) := by decide +kernel
theorem dL_law_1132 : decode cL_law 1132 = .ok (.istore 5, 2) := by decide +kernel
theorem dL_law_1134 : decode cL_law 1134 = .ok (.aload_n 2, 1) := by decide +kernel
theorem dL_law_1135 : decode cL_law 1135 = .ok (.aload_n 0, 1) := by decide +kernel
theorem dL_law_1136 : decode cL_law 1136 = .ok (.iload 4, 2) := by decide +kernel
theorem dL_law_1138 : decode cL_law 1138 = .ok (.iconst 1, 1) := by decide +kernel
theorem dL_law_1139 : decode cL_law 1139 = .ok (.iadd, 1) := by decide +kernel
theorem dL_law_1140 : decode cL_law 1140 = .ok (.iaload, 1) := by decide +kernel
theorem dL_law_1141 : decode cL_law 1141 = .ok (.invokevirtual 128, 3) := by decide +kernel
theorem dL_law_1144 : decode cL_law 1144 = .ok (.istore 6, 2) := by decide +kernel
theorem dL_law_1146 : decode cL_law 1146 = .ok (.aload_n 2, 1) := by decide +kernel
theorem dL_law_1147 : decode cL_law 1147 = .ok (.invokevirtual 97, 3) := by decide +kernel
theorem dL_law_1150 : decode cL_law 1150 = .ok (.iload 5, 2) := by decide +kernel
theorem dL_law_1152 : decode cL_law 1152 = .ok (.if_icmp .eq 5, 3) := by decide +kernel
theorem dL_law_1155 : decode cL_law 1155 = .ok (.iconst 0, 1) := by decide +kernel
theorem dL_law_1156 : decode cL_law 1156 = .ok (.ireturn, 1) := by decide +kernel
theorem dL_law_1157 : decode cL_law 1157 = .ok (.iload 5, 2) := by decide +kernel
theorem dL_law_1159 : decode cL_law 1159 = .ok (.ifCond .ne 15, 3) := by decide +kernel
theorem dL_law_1162 : decode cL_law 1162 = .ok (.aload_n 3, 1) := by decide +kernel
theorem dL_law_1163 : decode cL_law 1163 = .ok (.iconst 0, 1) := by decide +kernel
theorem dL_law_1164 : decode cL_law 1164 = .ok (.laload, 1) := by decide +kernel
theorem dL_law_1165 : decode cL_law 1165 = .ok (.iload 6, 2) := by decide +kernel
theorem dL_law_1167 : decode cL_law 1167 = .ok (.i2l, 1) := by decide +kernel
theorem dL_law_1168 : decode cL_law 1168 = .ok (.lcmp, 1) := by decide +kernel
theorem dL_law_1169 : decode cL_law 1169 = .ok (.ifCond .eq 5, 3) := by decide +kernel
theorem dL_law_1172 : decode cL_law 1172 = .ok (.iconst 0, 1) := by decide +kernel
theorem dL_law_1173 : decode cL_law 1173 = .ok (.ireturn, 1) := by decide +kernel
theorem dL_law_1174 : decode cL_law 1174 = .ok (.goto 272, 3) := by decide +kernel
theorem dL_law_1177 : decode cL_law 1177 = .ok (.aload_n 1, 1) := by decide +kernel
theorem dL_law_1178 : decode cL_law 1178 = .ok (.aload_n 0, 1) := by decide +kernel
theorem dL_law_1179 : decode cL_law 1179 = .ok (.iload 4, 2) := by decide +kernel
theorem dL_law_1181 : decode cL_law 1181 = .ok (.iconst 1, 1) := by decide +kernel
theorem dL_law_1182 : decode cL_law 1182 = .ok (.iadd, 1) := by decide +kernel
theorem dL_law_1183 : decode cL_law 1183 = .ok (.iaload, 1) := by decide +kernel
theorem dL_law_1184 : decode cL_law 1184 = .ok (.aload_n 0, 1) := by decide +kernel
theorem dL_law_1185 : decode cL_law 1185 = .ok (.iload 4, 2) := by decide +kernel
theorem dL_law_1187 : decode cL_law 1187 = .ok (.iconst 2, 1) := by decide +kernel
theorem dL_law_1188 : decode cL_law 1188 = .ok (.iadd, 1) := by decide +kernel
theorem dL_law_1189 : decode cL_law 1189 = .ok (.iaload, 1) := by decide +kernel
theorem dL_law_1190 : decode cL_law 1190 = .ok (.aload_n 3, 1) := by decide +kernel
theorem dL_law_1191 : decode cL_law 1191 = .ok (.invokestatic 129, 3) := by decide +kernel
theorem dL_law_1194 : decode cL_law 1194 = .ok (.istore 5, 2) := by decide +kernel
theorem dL_law_1196 : decode cL_law 1196 = .ok (.aload_n 2, 1) := by decide +kernel
theorem dL_law_1197 : decode cL_law 1197 = .ok (.aload_n 0, 1) := by decide +kernel
theorem dL_law_1198 : decode cL_law 1198 = .ok (.iload 4, 2) := by decide +kernel
theorem dL_law_1200 : decode cL_law 1200 = .ok (.iconst 1, 1) := by decide +kernel
theorem dL_law_1201 : decode cL_law 1201 = .ok (.iadd, 1) := by decide +kernel
theorem dL_law_1202 : decode cL_law 1202 = .ok (.iaload, 1) := by decide +kernel
theorem dL_law_1203 : decode cL_law 1203 = .ok (.aload_n 0, 1) := by decide +kernel
theorem dL_law_1204 : decode cL_law 1204 = .ok (.iload 4, 2) := by decide +kernel
theorem dL_law_1206 : decode cL_law 1206 = .ok (.iconst 2, 1) := by decide +kernel
theorem dL_law_1207 : decode cL_law 1207 = .ok (.iadd, 1) := by decide +kernel
theorem dL_law_1208 : decode cL_law 1208 = .ok (.iaload, 1) := by decide +kernel
theorem dL_law_1209 : decode cL_law 1209 = .ok (.invokevirtual 132, 3) := by decide +kernel
theorem dL_law_1212 : decode cL_law 1212 = .ok (.istore 6, 2) := by decide +kernel
theorem dL_law_1214 : decode cL_law 1214 = .ok (.aload_n 2, 1) := by decide +kernel
theorem dL_law_1215 : decode cL_law 1215 = .ok (.invokevirtual 97, 3) := by decide +kernel
theorem dL_law_1218 : decode cL_law 1218 = .ok (.iload 5, 2) := by decide +kernel
theorem dL_law_1220 : decode cL_law 1220 = .ok (.if_icmp .eq 5, 3) := by decide +kernel
theorem dL_law_1223 : decode cL_law 1223 = .ok (.iconst 0, 1) := by decide +kernel
theorem dL_law_1224 : decode cL_law 1224 = .ok (.ireturn, 1) := by decide +kernel
theorem dL_law_1225 : decode cL_law 1225 = .ok (.iload 5, 2) := by decide +kernel
theorem dL_law_1227 : decode cL_law 1227 = .ok (.ifCond .ne 15, 3) := by decide +kernel
theorem dL_law_1230 : decode cL_law 1230 = .ok (.aload_n 3, 1) := by decide +kernel
theorem dL_law_1231 : decode cL_law 1231 = .ok (.iconst 0, 1) := by decide +kernel
theorem dL_law_1232 : decode cL_law 1232 = .ok (.laload, 1) := by decide +kernel
theorem dL_law_1233 : decode cL_law 1233 = .ok (.iload 6, 2) := by decide +kernel
theorem dL_law_1235 : decode cL_law 1235 = .ok (.i2l, 1) := by decide +kernel
theorem dL_law_1236 : decode cL_law 1236 = .ok (.lcmp, 1) := by decide +kernel
theorem dL_law_1237 : decode cL_law 1237 = .ok (.ifCond .eq 5, 3) := by decide +kernel
theorem dL_law_1240 : decode cL_law 1240 = .ok (.iconst 0, 1) := by decide +kernel
theorem dL_law_1241 : decode cL_law 1241 = .ok (.ireturn, 1) := by decide +kernel
theorem dL_law_1242 : decode cL_law 1242 = .ok (.goto 204, 3) := by decide +kernel
theorem dL_law_1245 : decode cL_law 1245 = .ok (.aload_n 1, 1) := by decide +kernel
theorem dL_law_1246 : decode cL_law 1246 = .ok (.aload_n 0, 1) := by decide +kernel
theorem dL_law_1247 : decode cL_law 1247 = .ok (.iload 4, 2) := by decide +kernel
theorem dL_law_1249 : decode cL_law 1249 = .ok (.iconst 1, 1) := by decide +kernel
theorem dL_law_1250 : decode cL_law 1250 = .ok (.iadd, 1) := by decide +kernel
theorem dL_law_1251 : decode cL_law 1251 = .ok (.iaload, 1) := by decide +kernel
theorem dL_law_1252 : decode cL_law 1252 = .ok (.aload_n 3, 1) := by decide +kernel
theorem dL_law_1253 : decode cL_law 1253 = .ok (.invokestatic 133, 3) := by decide +kernel
theorem dL_law_1256 : decode cL_law 1256 = .ok (.istore 5, 2) := by decide +kernel
theorem dL_law_1258 : decode cL_law 1258 = .ok (.aload_n 2, 1) := by decide +kernel
theorem dL_law_1259 : decode cL_law 1259 = .ok (.aload_n 0, 1) := by decide +kernel
theorem dL_law_1260 : decode cL_law 1260 = .ok (.iload 4, 2) := by decide +kernel
theorem dL_law_1262 : decode cL_law 1262 = .ok (.iconst 1, 1) := by decide +kernel
theorem dL_law_1263 : decode cL_law 1263 = .ok (.iadd, 1) := by decide +kernel
theorem dL_law_1264 : decode cL_law 1264 = .ok (.iaload, 1) := by decide +kernel
theorem dL_law_1265 : decode cL_law 1265 = .ok (.invokevirtual 135, 3) := by decide +kernel
theorem dL_law_1268 : decode cL_law 1268 = .ok (.istore 6, 2) := by decide +kernel
theorem dL_law_1270 : decode cL_law 1270 = .ok (.aload_n 2, 1) := by decide +kernel
theorem dL_law_1271 : decode cL_law 1271 = .ok (.invokevirtual 97, 3) := by decide +kernel
theorem dL_law_1274 : decode cL_law 1274 = .ok (.iload 5, 2) := by decide +kernel
theorem dL_law_1276 : decode cL_law 1276 = .ok (.if_icmp .eq 5, 3) := by decide +kernel
theorem dL_law_1279 : decode cL_law 1279 = .ok (.iconst 0, 1) := by decide +kernel
theorem dL_law_1280 : decode cL_law 1280 = .ok (.ireturn, 1) := by decide +kernel
theorem dL_law_1281 : decode cL_law 1281 = .ok (.iload 5, 2) := by decide +kernel
theorem dL_law_1283 : decode cL_law 1283 = .ok (.ifCond .ne 15, 3) := by decide +kernel
theorem dL_law_1286 : decode cL_law 1286 = .ok (.aload_n 3, 1) := by decide +kernel
theorem dL_law_1287 : decode cL_law 1287 = .ok (.iconst 0, 1) := by decide +kernel
theorem dL_law_1288 : decode cL_law 1288 = .ok (.laload, 1) := by decide +kernel
theorem dL_law_1289 : decode cL_law 1289 = .ok (.iload 6, 2) := by decide +kernel
theorem dL_law_1291 : decode cL_law 1291 = .ok (.i2l, 1) := by decide +kernel
theorem dL_law_1292 : decode cL_law 1292 = .ok (.lcmp, 1) := by decide +kernel
theorem dL_law_1293 : decode cL_law 1293 = .ok (.ifCond .eq 5, 3) := by decide +kernel
theorem dL_law_1296 : decode cL_law 1296 = .ok (.iconst 0, 1) := by decide +kernel
theorem dL_law_1297 : decode cL_law 1297 = .ok (.ireturn, 1) := by decide +kernel
theorem dL_law_1298 : decode cL_law 1298 = .ok (.goto 148, 3) := by decide +kernel
theorem dL_law_1301 : decode cL_law 1301 = .ok (.aload_n 1, 1) := by decide +kernel
theorem dL_law_1302 : decode cL_law 1302 = .ok (.aload_n 0, 1) := by decide +kernel
theorem dL_law_1303 : decode cL_law 1303 = .ok (.iload 4, 2) := by decide +kernel
theorem dL_law_1305 : decode cL_law 1305 = .ok (.iconst 1, 1) := by decide +kernel
theorem dL_law_1306 : decode cL_law 1306 = .ok (.iadd, 1) := by decide +kernel
theorem dL_law_1307 : decode cL_law 1307 = .ok (.iaload, 1) := by decide +kernel
theorem dL_law_1308 : decode cL_law 1308 = .ok (.aload_n 0, 1) := by decide +kernel
theorem dL_law_1309 : decode cL_law 1309 = .ok (.iload 4, 2) := by decide +kernel
theorem dL_law_1311 : decode cL_law 1311 = .ok (.iconst 2, 1) := by decide +kernel
theorem dL_law_1312 : decode cL_law 1312 = .ok (.iadd, 1) := by decide +kernel
theorem dL_law_1313 : decode cL_law 1313 = .ok (.iaload, 1) := by decide +kernel
theorem dL_law_1314 : decode cL_law 1314 = .ok (.aload_n 0, 1) := by decide +kernel
theorem dL_law_1315 : decode cL_law 1315 = .ok (.iload 4, 2) := by decide +kernel
theorem dL_law_1317 : decode cL_law 1317 = .ok (.iconst 3, 1) := by decide +kernel
theorem dL_law_1318 : decode cL_law 1318 = .ok (.iadd, 1) := by decide +kernel
theorem dL_law_1319 : decode cL_law 1319 = .ok (.iaload, 1) := by decide +kernel
theorem dL_law_1320 : decode cL_law 1320 = .ok (.i2l, 1) := by decide +kernel
theorem dL_law_1321 : decode cL_law 1321 = .ok (.bipush 32, 2) := by decide +kernel
theorem dL_law_1323 : decode cL_law 1323 = .ok (.lshl, 1) := by decide +kernel
theorem dL_law_1324 : decode cL_law 1324 = .ok (.aload_n 0, 1) := by decide +kernel
theorem dL_law_1325 : decode cL_law 1325 = .ok (.iload 4, 2) := by decide +kernel
theorem dL_law_1327 : decode cL_law 1327 = .ok (.iconst 4, 1) := by decide +kernel
theorem dL_law_1328 : decode cL_law 1328 = .ok (.iadd, 1) := by decide +kernel
theorem dL_law_1329 : decode cL_law 1329 = .ok (.iaload, 1) := by decide +kernel
theorem dL_law_1330 : decode cL_law 1330 = .ok (.i2l, 1) := by decide +kernel
theorem dL_law_1331 : decode cL_law 1331 = .ok (.ldc2_w 50, 3) := by decide +kernel
theorem dL_law_1334 : decode cL_law 1334 = .ok (.land, 1) := by decide +kernel
theorem dL_law_1335 : decode cL_law 1335 = .ok (.lor, 1) := by decide +kernel
theorem dL_law_1336 : decode cL_law 1336 = .ok (.invokevirtual 136, 3) := by decide +kernel
theorem dL_law_1339 : decode cL_law 1339 = .ok (.aload_n 2, 1) := by decide +kernel
theorem dL_law_1340 : decode cL_law 1340 = .ok (.aload_n 0, 1) := by decide +kernel
theorem dL_law_1341 : decode cL_law 1341 = .ok (.iload 4, 2) := by decide +kernel
theorem dL_law_1343 : decode cL_law 1343 = .ok (.iconst 1, 1) := by decide +kernel
theorem dL_law_1344 : decode cL_law 1344 = .ok (.iadd, 1) := by decide +kernel
theorem dL_law_1345 : decode cL_law 1345 = .ok (.iaload, 1) := by decide +kernel
theorem dL_law_1346 : decode cL_law 1346 = .ok (.aload_n 0, 1) := by decide +kernel
theorem dL_law_1347 : decode cL_law 1347 = .ok (.iload 4, 2) := by decide +kernel
theorem dL_law_1349 : decode cL_law 1349 = .ok (.iconst 2, 1) := by decide +kernel
theorem dL_law_1350 : decode cL_law 1350 = .ok (.iadd, 1) := by decide +kernel
theorem dL_law_1351 : decode cL_law 1351 = .ok (.iaload, 1) := by decide +kernel
theorem dL_law_1352 : decode cL_law 1352 = .ok (.aload_n 0, 1) := by decide +kernel
theorem dL_law_1353 : decode cL_law 1353 = .ok (.iload 4, 2) := by decide +kernel
theorem dL_law_1355 : decode cL_law 1355 = .ok (.iconst 3, 1) := by decide +kernel
theorem dL_law_1356 : decode cL_law 1356 = .ok (.iadd, 1) := by decide +kernel
theorem dL_law_1357 : decode cL_law 1357 = .ok (.iaload, 1) := by decide +kernel
theorem dL_law_1358 : decode cL_law 1358 = .ok (.i2l, 1) := by decide +kernel
theorem dL_law_1359 : decode cL_law 1359 = .ok (.bipush 32, 2) := by decide +kernel
theorem dL_law_1361 : decode cL_law 1361 = .ok (.lshl, 1) := by decide +kernel
theorem dL_law_1362 : decode cL_law 1362 = .ok (.aload_n 0, 1) := by decide +kernel
theorem dL_law_1363 : decode cL_law 1363 = .ok (.iload 4, 2) := by decide +kernel
theorem dL_law_1365 : decode cL_law 1365 = .ok (.iconst 4, 1) := by decide +kernel
theorem dL_law_1366 : decode cL_law 1366 = .ok (.iadd, 1) := by decide +kernel
theorem dL_law_1367 : decode cL_law 1367 = .ok (.iaload, 1) := by decide +kernel
theorem dL_law_1368 : decode cL_law 1368 = .ok (.i2l, 1) := by decide +kernel
theorem dL_law_1369 : decode cL_law 1369 = .ok (.ldc2_w 50, 3) := by decide +kernel
theorem dL_law_1372 : decode cL_law 1372 = .ok (.land, 1) := by decide +kernel
theorem dL_law_1373 : decode cL_law 1373 = .ok (.lor, 1) := by decide +kernel
theorem dL_law_1374 : decode cL_law 1374 = .ok (.invokevirtual 140, 3) := by decide +kernel
theorem dL_law_1377 : decode cL_law 1377 = .ok (.lcmp, 1) := by decide +kernel
theorem dL_law_1378 : decode cL_law 1378 = .ok (.ifCond .eq 68, 3) := by decide +kernel
theorem dL_law_1381 : decode cL_law 1381 = .ok (.iconst 0, 1) := by decide +kernel
theorem dL_law_1382 : decode cL_law 1382 = .ok (.ireturn, 1) := by decide +kernel
theorem dL_law_1383 : decode cL_law 1383 = .ok (.aload_n 1, 1) := by decide +kernel
theorem dL_law_1384 : decode cL_law 1384 = .ok (.aload_n 0, 1) := by decide +kernel
theorem dL_law_1385 : decode cL_law 1385 = .ok (.iload 4, 2) := by decide +kernel
theorem dL_law_1387 : decode cL_law 1387 = .ok (.iconst 1, 1) := by decide +kernel
theorem dL_law_1388 : decode cL_law 1388 = .ok (.iadd, 1) := by decide +kernel
theorem dL_law_1389 : decode cL_law 1389 = .ok (.iaload, 1) := by decide +kernel
theorem dL_law_1390 : decode cL_law 1390 = .ok (.invokevirtual 141, 3) := by decide +kernel
theorem dL_law_1393 : decode cL_law 1393 = .ok (.aload_n 2, 1) := by decide +kernel
theorem dL_law_1394 : decode cL_law 1394 = .ok (.aload_n 0, 1) := by decide +kernel
theorem dL_law_1395 : decode cL_law 1395 = .ok (.iload 4, 2) := by decide +kernel
theorem dL_law_1397 : decode cL_law 1397 = .ok (.iconst 1, 1) := by decide +kernel
theorem dL_law_1398 : decode cL_law 1398 = .ok (.iadd, 1) := by decide +kernel
theorem dL_law_1399 : decode cL_law 1399 = .ok (.iaload, 1) := by decide +kernel
theorem dL_law_1400 : decode cL_law 1400 = .ok (.invokevirtual 144, 3) := by decide +kernel
theorem dL_law_1403 : decode cL_law 1403 = .ok (.if_icmp .eq 43, 3) := by decide +kernel
theorem dL_law_1406 : decode cL_law 1406 = .ok (.iconst 0, 1) := by decide +kernel
theorem dL_law_1407 : decode cL_law 1407 = .ok (.ireturn, 1) := by decide +kernel
theorem dL_law_1408 : decode cL_law 1408 = .ok (.aload_n 1, 1) := by decide +kernel
theorem dL_law_1409 : decode cL_law 1409 = .ok (.aload_n 0, 1) := by decide +kernel
theorem dL_law_1410 : decode cL_law 1410 = .ok (.iload 4, 2) := by decide +kernel
theorem dL_law_1412 : decode cL_law 1412 = .ok (.iconst 1, 1) := by decide +kernel
theorem dL_law_1413 : decode cL_law 1413 = .ok (.iadd, 1) := by decide +kernel
theorem dL_law_1414 : decode cL_law 1414 = .ok (.iaload, 1) := by decide +kernel
theorem dL_law_1415 : decode cL_law 1415 = .ok (.invokevirtual 145, 3) := by decide +kernel
theorem dL_law_1418 : decode cL_law 1418 = .ok (.aload_n 2, 1) := by decide +kernel
theorem dL_law_1419 : decode cL_law 1419 = .ok (.aload_n 0, 1) := by decide +kernel
theorem dL_law_1420 : decode cL_law 1420 = .ok (.iload 4, 2) := by decide +kernel
theorem dL_law_1422 : decode cL_law 1422 = .ok (.iconst 1, 1) := by decide +kernel
theorem dL_law_1423 : decode cL_law 1423 = .ok (.iadd, 1) := by decide +kernel
theorem dL_law_1424 : decode cL_law 1424 = .ok (.iaload, 1) := by decide +kernel
theorem dL_law_1425 : decode cL_law 1425 = .ok (.invokevirtual 148, 3) := by decide +kernel
theorem dL_law_1428 : decode cL_law 1428 = .ok (.if_icmp .eq 18, 3) := by decide +kernel
theorem dL_law_1431 : decode cL_law 1431 = .ok (.iconst 0, 1) := by decide +kernel
theorem dL_law_1432 : decode cL_law 1432 = .ok (.ireturn, 1) := by decide +kernel
theorem dL_law_1433 : decode cL_law 1433 = .ok (.aload_n 1, 1) := by decide +kernel
theorem dL_law_1434 : decode cL_law 1434 = .ok (.invokevirtual 149, 3) := by decide +kernel
theorem dL_law_1437 : decode cL_law 1437 = .ok (.aload_n 2, 1) := by decide +kernel
theorem dL_law_1438 : decode cL_law 1438 = .ok (.invokevirtual 152, 3) := by decide +kernel
theorem dL_law_1441 : decode cL_law 1441 = .ok (.if_icmp .eq 5, 3) := by decide +kernel
theorem dL_law_1444 : decode cL_law 1444 = .ok (.iconst 0, 1) := by decide +kernel
theorem dL_law_1445 : decode cL_law 1445 = .ok (.ireturn, 1) := by decide +kernel
theorem dL_law_1446 : decode cL_law 1446 = .ok (.iinc 4 6, 3) := by decide +kernel
theorem dL_law_1449 : decode cL_law 1449 = .ok (.goto (-1426), 3) := by decide +kernel
theorem dL_law_1452 : decode cL_law 1452 = .ok (.iconst 1, 1) := by decide +kernel
theorem dL_law_1453 : decode cL_law 1453 = .ok (.ireturn, 1) := by decide +kernel
end
section
/-! the words of the tables that stay good in a callee, one list for every method -/
def GT : List Cond := lw_tbl.filter goodWord
theorem gm_of {w : Cond} (h : w ∈ lw_tbl) (g : goodWord w = true) : w ∈ GT := List.mem_filter.mpr ⟨h, g⟩
theorem gm0 {w : Cond} {i : Nat} (h : (k2_sels lw_privs)[i]? = some w) (g : goodWord w = true) : w ∈ GT := gm_of (List.mem_append_left _ (List.mem_of_getElem? h)) g
theorem gm1 {w : Cond} {i : Nat} (h : tables_1_1[i]? = some w) (g : goodWord w = true) : w ∈ GT := gm_of (List.mem_append_right _ (List.mem_append_left _ (List.mem_of_getElem? h))) g
theorem gm2 {w : Cond} {i : Nat} (h : tables_1_2[i]? = some w) (g : goodWord w = true) : w ∈ GT := gm_of (List.mem_append_right _ (List.mem_append_right _ (List.mem_append_left _ (List.mem_of_getElem? h)))) g
theorem gm3 {w : Cond} {i : Nat} (h : tables_1_3[i]? = some w) (g : goodWord w = true) : w ∈ GT := gm_of (List.mem_append_right _ (List.mem_append_right _ (List.mem_append_right _ (List.mem_append_left _ (List.mem_of_getElem? h))))) g
theorem gm4 {w : Cond} {i : Nat} (h : tables_1_4[i]? = some w) (g : goodWord w = true) : w ∈ GT := gm_of (List.mem_append_right _ (List.mem_append_right _ (List.mem_append_right _ (List.mem_append_right _ (List.mem_of_getElem? h))))) g
theorem gt_good : ∀ w ∈ GT, goodWord w = true := fun w h => (List.mem_filter.mp h).2
theorem g_in_L : Cond.initialized RL ∈ GT := gm1 (i := 0) (by decide +kernel) rfl
theorem g_in_X8 : Cond.initialized RX8 ∈ GT := gm1 (i := 1) (by decide +kernel) rfl
theorem g_in_X2 : Cond.initialized RX2 ∈ GT := gm1 (i := 2) (by decide +kernel) rfl
theorem g_in_X3 : Cond.initialized RX3 ∈ GT := gm1 (i := 3) (by decide +kernel) rfl
theorem g_in_X9 : Cond.initialized RX9 ∈ GT := gm1 (i := 4) (by decide +kernel) rfl
theorem g_in_X5 : Cond.initialized RX5 ∈ GT := gm1 (i := 5) (by decide +kernel) rfl
theorem g_in_X7 : Cond.initialized RX7 ∈ GT := gm1 (i := 6) (by decide +kernel) rfl
theorem g_in_X6 : Cond.initialized RX6 ∈ GT := gm1 (i := 7) (by decide +kernel) rfl
theorem g_in_X4 : Cond.initialized RX4 ∈ GT := gm1 (i := 8) (by decide +kernel) rfl
theorem g_in_X0 : Cond.initialized RX0 ∈ GT := gm1 (i := 9) (by decide +kernel) rfl
theorem g_in_X1 : Cond.initialized RX1 ∈ GT := gm1 (i := 10) (by decide +kernel) rfl
theorem g_in_java_lang_Throwable : Cond.initialized "java/lang/Throwable" ∈ GT := gm1 (i := 11) (by decide +kernel) rfl
theorem g_in_java_lang_Exception : Cond.initialized "java/lang/Exception" ∈ GT := gm1 (i := 12) (by decide +kernel) rfl
theorem g_in_java_lang_RuntimeException : Cond.initialized "java/lang/RuntimeException" ∈ GT := gm1 (i := 13) (by decide +kernel) rfl
theorem g_in_java_lang_IndexOutOfBoundsException : Cond.initialized "java/lang/IndexOutOfBoundsException" ∈ GT := gm1 (i := 14) (by decide +kernel) rfl
theorem g_in_Jx00060 : Cond.initialized RJx00060 ∈ GT := gm1 (i := 15) (by decide +kernel) rfl
theorem g_in_J0 : Cond.initialized RJ0 ∈ GT := gm1 (i := 16) (by decide +kernel) rfl
theorem g_in_Jxde1cd : Cond.initialized RJxde1cd ∈ GT := gm1 (i := 17) (by decide +kernel) rfl
theorem g_in_java_lang_IllegalArgumentException : Cond.initialized "java/lang/IllegalArgumentException" ∈ GT := gm1 (i := 18) (by decide +kernel) rfl
theorem g_in_J7 : Cond.initialized RJ7 ∈ GT := gm1 (i := 19) (by decide +kernel) rfl
theorem g_cl_L_8 : Cond.classLink RL 8 RX8 ∈ GT := gm1 (i := 20) (by decide +kernel) rfl
theorem g_ins_X8 : Cond.instantiable RX8 8 ∈ GT := gm1 (i := 21) (by decide +kernel) rfl
theorem g_ml_L_46 : Cond.methodLink RL 46 yX8_init ∈ GT := gm1 (i := 22) (by decide +kernel) rfl
theorem g_im_yX8_init : Cond.instanceMethod yX8_init ∈ GT := gm1 (i := 23) (by decide +kernel) rfl
theorem g_cd_yX8_init : Cond.code yX8_init cX8_init 1 (none : Option Jvm.ClassFile.FieldType) ∈ GT := gm1 (i := 24) (by decide +kernel) rfl
theorem g_ml_X8_1 : Cond.methodLink RX8 1 ⟨"java/lang/Object", "<init>", "()V"⟩ ∈ GT := gm1 (i := 25) (by decide +kernel) rfl
theorem g_im_java_lang_Object__init__47f5 : Cond.instanceMethod ⟨"java/lang/Object", "<init>", "()V"⟩ ∈ GT := gm1 (i := 26) (by decide +kernel) rfl
theorem g_cd_java_lang_Object__init__47f5 : Cond.code ⟨"java/lang/Object", "<init>", "()V"⟩ object_method_1_code 1 (none : Option Jvm.ClassFile.FieldType) ∈ GT := gm1 (i := 27) (by decide +kernel) rfl
theorem g_cl_X8_7 : Cond.classLink RX8 7 RX2 ∈ GT := gm1 (i := 28) (by decide +kernel) rfl
theorem g_ins_X2 : Cond.instantiable RX2 1 ∈ GT := gm1 (i := 29) (by decide +kernel) rfl
theorem g_ml_X8_9 : Cond.methodLink RX8 9 yX2_init ∈ GT := gm1 (i := 30) (by decide +kernel) rfl
theorem g_im_yX2_init : Cond.instanceMethod yX2_init ∈ GT := gm1 (i := 31) (by decide +kernel) rfl
theorem g_cd_yX2_init : Cond.code yX2_init cX2_init 1 (none : Option Jvm.ClassFile.FieldType) ∈ GT := gm1 (i := 32) (by decide +kernel) rfl
theorem g_ml_X2_3 : Cond.methodLink RX2 3 ⟨"java/lang/Object", "<init>", "()V"⟩ ∈ GT := gm1 (i := 33) (by decide +kernel) rfl
theorem g_fl_X2_9 : Cond.fieldLink RX2 9 "IndexRanges$Hand" "numbers" "[J" ∈ GT := gm1 (i := 34) (by decide +kernel) rfl
theorem g_sup_X2_java_lang_Object : Cond.superclass RX2 "java/lang/Object" ∈ GT := gm1 (i := 37) (by decide +kernel) rfl
theorem g_ac_long : Cond.arrayClass .long ∈ GT := gm1 (i := 38) (by decide +kernel) rfl
theorem g_cl_X8_19 : Cond.classLink RX8 19 RX3 ∈ GT := gm1 (i := 39) (by decide +kernel) rfl
theorem g_ins_X3 : Cond.instantiable RX3 4 ∈ GT := gm1 (i := 40) (by decide +kernel) rfl
theorem g_im_yX3_init : Cond.instanceMethod yX3_init ∈ GT := gm1 (i := 42) (by decide +kernel) rfl
theorem g_cd_yX3_init : Cond.code yX3_init cX3_init 1 (none : Option Jvm.ClassFile.FieldType) ∈ GT := gm1 (i := 43) (by decide +kernel) rfl
theorem g_ml_X3_1 : Cond.methodLink RX3 1 ⟨"java/lang/Object", "<init>", "()V"⟩ ∈ GT := gm1 (i := 44) (by decide +kernel) rfl
theorem g_fl_X3_7 : Cond.fieldLink RX3 7 "IndexRanges$Miss" "times" "I" ∈ GT := gm1 (i := 45) (by decide +kernel) rfl
theorem g_fl_X8_145 : Cond.fieldLink RX8 145 "IndexRanges$Miss" "times" "I" ∈ GT := gm1 (i := 46) (by decide +kernel) rfl
theorem g_fl_X3_13 : Cond.fieldLink RX3 13 "IndexRanges$Miss" "single" "I" ∈ GT := gm1 (i := 47) (by decide +kernel) rfl
theorem g_fl_X8_148 : Cond.fieldLink RX8 148 "IndexRanges$Miss" "single" "I" ∈ GT := gm1 (i := 48) (by decide +kernel) rfl
theorem g_fl_X3_16 : Cond.fieldLink RX3 16 "IndexRanges$Miss" "number" "I" ∈ GT := gm1 (i := 49) (by decide +kernel) rfl
theorem g_fl_X8_151 : Cond.fieldLink RX8 151 "IndexRanges$Miss" "number" "I" ∈ GT := gm1 (i := 50) (by decide +kernel) rfl
theorem g_fl_X3_19 : Cond.fieldLink RX3 19 "IndexRanges$Miss" "depth" "I" ∈ GT := gm1 (i := 51) (by decide +kernel) rfl
theorem g_fl_X8_154 : Cond.fieldLink RX8 154 "IndexRanges$Miss" "depth" "I" ∈ GT := gm1 (i := 52) (by decide +kernel) rfl
theorem g_sup_X3_java_lang_Object : Cond.superclass RX3 "java/lang/Object" ∈ GT := gm1 (i := 61) (by decide +kernel) rfl
theorem g_cl_X8_26 : Cond.classLink RX8 26 RX5 ∈ GT := gm1 (i := 62) (by decide +kernel) rfl
theorem g_cl_X8_35 : Cond.classLink RX8 35 "[[I" ∈ GT := gm1 (i := 64) (by decide +kernel) rfl
theorem g_fl_X8_10 : Cond.fieldLink RX8 10 "IndexRanges" "hand" "LIndexRanges$Hand;" ∈ GT := gm1 (i := 66) (by decide +kernel) rfl
theorem g_fl_X8_16 : Cond.fieldLink RX8 16 "IndexRanges" "scratch" "LIndexRanges$Hand;" ∈ GT := gm1 (i := 67) (by decide +kernel) rfl
theorem g_fl_X8_22 : Cond.fieldLink RX8 22 "IndexRanges" "lastMiss" "LIndexRanges$Miss;" ∈ GT := gm1 (i := 68) (by decide +kernel) rfl
theorem g_fl_X8_28 : Cond.fieldLink RX8 28 "IndexRanges" "ranges" "[LIndexRanges$Range;" ∈ GT := gm1 (i := 69) (by decide +kernel) rfl
theorem g_fl_X8_32 : Cond.fieldLink RX8 32 "IndexRanges" "bases" "[LIndexRanges$Range;" ∈ GT := gm1 (i := 70) (by decide +kernel) rfl
theorem g_fl_X8_37 : Cond.fieldLink RX8 37 "IndexRanges" "cells" "[[I" ∈ GT := gm1 (i := 71) (by decide +kernel) rfl
theorem g_fl_X8_40 : Cond.fieldLink RX8 40 "IndexRanges" "rangeCount" "I" ∈ GT := gm1 (i := 72) (by decide +kernel) rfl
theorem g_fl_X8_44 : Cond.fieldLink RX8 44 "IndexRanges" "arrayCount" "I" ∈ GT := gm1 (i := 73) (by decide +kernel) rfl
theorem g_sup_X8_java_lang_Object : Cond.superclass RX8 "java/lang/Object" ∈ GT := gm1 (i := 90) (by decide +kernel) rfl
theorem g_ac_int : Cond.arrayClass .int ∈ GT := gm1 (i := 91) (by decide +kernel) rfl
theorem g_ml_L_52 : Cond.methodLink RL 52 yX8_wholes ∈ GT := gm1 (i := 92) (by decide +kernel) rfl
theorem g_im_yX8_wholes : Cond.instanceMethod yX8_wholes ∈ GT := gm1 (i := 93) (by decide +kernel) rfl
theorem g_se_X8_yX8_wholes_yX8_wholes : Cond.selects RX8 yX8_wholes yX8_wholes ∈ GT := gm1 (i := 94) (by decide +kernel) rfl
theorem g_cd_yX8_wholes : Cond.code yX8_wholes cX8_wholes 5 (some .int) ∈ GT := gm1 (i := 95) (by decide +kernel) rfl
theorem g_ml_X8_47 : Cond.methodLink RX8 47 yX8_addRow ∈ GT := gm1 (i := 96) (by decide +kernel) rfl
theorem g_im_yX8_addRow : Cond.instanceMethod yX8_addRow ∈ GT := gm1 (i := 98) (by decide +kernel) rfl
theorem g_cd_yX8_addRow : Cond.code yX8_addRow cX8_addRow 11 (some .int) ∈ GT := gm1 (i := 99) (by decide +kernel) rfl
theorem g_ml_X8_56 : Cond.methodLink RX8 56 yX8_isFull ∈ GT := gm1 (i := 100) (by decide +kernel) rfl
theorem g_im_yX8_isFull : Cond.instanceMethod yX8_isFull ∈ GT := gm1 (i := 102) (by decide +kernel) rfl
theorem g_cd_yX8_isFull : Cond.code yX8_isFull cX8_isFull 1 (some .boolean) ∈ GT := gm1 (i := 103) (by decide +kernel) rfl
theorem g_cl_X8_198 : Cond.classLink RX8 198 RX6 ∈ GT := gm1 (i := 104) (by decide +kernel) rfl
theorem g_ins_X6 : Cond.instantiable RX6 7 ∈ GT := gm1 (i := 105) (by decide +kernel) rfl
theorem g_ml_X8_200 : Cond.methodLink RX8 200 yX6_init ∈ GT := gm1 (i := 106) (by decide +kernel) rfl
theorem g_im_yX6_init : Cond.instanceMethod yX6_init ∈ GT := gm1 (i := 107) (by decide +kernel) rfl
theorem g_cd_yX6_init : Cond.code yX6_init cX6_init 10 (none : Option Jvm.ClassFile.FieldType) ∈ GT := gm1 (i := 108) (by decide +kernel) rfl
theorem g_ml_X6_3 : Cond.methodLink RX6 3 yX7_init ∈ GT := gm1 (i := 109) (by decide +kernel) rfl
theorem g_im_yX7_init : Cond.instanceMethod yX7_init ∈ GT := gm1 (i := 110) (by decide +kernel) rfl
theorem g_cd_yX7_init : Cond.code yX7_init cX7_init 5 (none : Option Jvm.ClassFile.FieldType) ∈ GT := gm1 (i := 111) (by decide +kernel) rfl
theorem g_ml_X7_3 : Cond.methodLink RX7 3 yX5_init ∈ GT := gm1 (i := 112) (by decide +kernel) rfl
theorem g_im_yX5_init : Cond.instanceMethod yX5_init ∈ GT := gm1 (i := 113) (by decide +kernel) rfl
theorem g_cd_yX5_init : Cond.code yX5_init cX5_init 6 (none : Option Jvm.ClassFile.FieldType) ∈ GT := gm1 (i := 114) (by decide +kernel) rfl
theorem g_ml_X5_3 : Cond.methodLink RX5 3 ⟨"java/lang/Object", "<init>", "()V"⟩ ∈ GT := gm1 (i := 115) (by decide +kernel) rfl
theorem g_fl_X6_9 : Cond.fieldLink RX6 9 "IndexRanges$Row" "first" "J" ∈ GT := gm1 (i := 116) (by decide +kernel) rfl
theorem g_fl_X6_15 : Cond.fieldLink RX6 15 "IndexRanges$Row" "last" "J" ∈ GT := gm1 (i := 117) (by decide +kernel) rfl
theorem g_fl_X6_18 : Cond.fieldLink RX6 18 "IndexRanges$Row" "step" "I" ∈ GT := gm1 (i := 118) (by decide +kernel) rfl
theorem g_fl_X5_9 : Cond.fieldLink RX5 9 "IndexRanges$Range" "number" "I" ∈ GT := gm1 (i := 119) (by decide +kernel) rfl
theorem g_fl_X7_23 : Cond.fieldLink RX7 23 "IndexRanges$Single" "number" "I" ∈ GT := gm1 (i := 120) (by decide +kernel) rfl
theorem g_sf_X7_number : Cond.sameField RX7 RX5 "number" "I" ∈ GT := gm1 (i := 121) (by decide +kernel) rfl
theorem g_fl_X8_186 : Cond.fieldLink RX8 186 "IndexRanges$Range" "number" "I" ∈ GT := gm1 (i := 122) (by decide +kernel) rfl
theorem g_fl_X5_15 : Cond.fieldLink RX5 15 "IndexRanges$Range" "kind" "I" ∈ GT := gm1 (i := 123) (by decide +kernel) rfl
theorem g_fl_X8_90 : Cond.fieldLink RX8 90 "IndexRanges$Range" "kind" "I" ∈ GT := gm1 (i := 124) (by decide +kernel) rfl
theorem g_fl_X0_3 : Cond.fieldLink RX0 3 "IndexRanges$Range" "width" "I" ∈ GT := gm1 (i := 125) (by decide +kernel) rfl
theorem g_fl_X5_18 : Cond.fieldLink RX5 18 "IndexRanges$Range" "width" "I" ∈ GT := gm1 (i := 126) (by decide +kernel) rfl
theorem g_fl_X1_32 : Cond.fieldLink RX1 32 "IndexRanges$Range" "width" "I" ∈ GT := gm1 (i := 127) (by decide +kernel) rfl
theorem g_fl_X1_36 : Cond.fieldLink RX1 36 "IndexRanges$Beside" "width" "I" ∈ GT := gm1 (i := 128) (by decide +kernel) rfl
theorem g_sf_X1_width : Cond.sameField RX1 RX5 "width" "I" ∈ GT := gm1 (i := 129) (by decide +kernel) rfl
theorem g_fl_X8_93 : Cond.fieldLink RX8 93 "IndexRanges$Range" "width" "I" ∈ GT := gm1 (i := 130) (by decide +kernel) rfl
theorem g_fl_X0_9 : Cond.fieldLink RX0 9 "IndexRanges$Range" "size" "J" ∈ GT := gm1 (i := 131) (by decide +kernel) rfl
theorem g_fl_X5_21 : Cond.fieldLink RX5 21 "IndexRanges$Range" "size" "J" ∈ GT := gm1 (i := 132) (by decide +kernel) rfl
theorem g_fl_X4_20 : Cond.fieldLink RX4 20 "IndexRanges$Names" "size" "J" ∈ GT := gm1 (i := 133) (by decide +kernel) rfl
theorem g_sf_X4_size : Cond.sameField RX4 RX5 "size" "J" ∈ GT := gm1 (i := 134) (by decide +kernel) rfl
theorem g_fl_X6_22 : Cond.fieldLink RX6 22 "IndexRanges$Row" "size" "J" ∈ GT := gm1 (i := 135) (by decide +kernel) rfl
theorem g_sf_X6_size : Cond.sameField RX6 RX5 "size" "J" ∈ GT := gm1 (i := 136) (by decide +kernel) rfl
theorem g_fl_X0_29 : Cond.fieldLink RX0 29 "IndexRanges$Back" "size" "J" ∈ GT := gm1 (i := 137) (by decide +kernel) rfl
theorem g_sf_X0_size : Cond.sameField RX0 RX5 "size" "J" ∈ GT := gm1 (i := 138) (by decide +kernel) rfl
theorem g_fl_X1_21 : Cond.fieldLink RX1 21 "IndexRanges$Range" "size" "J" ∈ GT := gm1 (i := 139) (by decide +kernel) rfl
theorem g_fl_X8_75 : Cond.fieldLink RX8 75 "IndexRanges$Range" "size" "J" ∈ GT := gm1 (i := 140) (by decide +kernel) rfl
theorem g_fl_X7_40 : Cond.fieldLink RX7 40 "IndexRanges$Single" "size" "J" ∈ GT := gm1 (i := 141) (by decide +kernel) rfl
theorem g_sf_X7_size : Cond.sameField RX7 RX5 "size" "J" ∈ GT := gm1 (i := 142) (by decide +kernel) rfl
theorem g_sup_X6_X7 : Cond.superclass RX6 RX7 ∈ GT := gm1 (i := 157) (by decide +kernel) rfl
theorem g_ml_X8_65 : Cond.methodLink RX8 65 yX8_add ∈ GT := gm1 (i := 158) (by decide +kernel) rfl
theorem g_im_yX8_add : Cond.instanceMethod yX8_add ∈ GT := gm1 (i := 160) (by decide +kernel) rfl
theorem g_cd_yX8_add : Cond.code yX8_add cX8_add 2 (some .int) ∈ GT := gm1 (i := 161) (by decide +kernel) rfl
theorem g_ml_X8_203 : Cond.methodLink RX8 203 yX8_quotient ∈ GT := gm1 (i := 162) (by decide +kernel) rfl
theorem g_st_yX8_quotient : Cond.static yX8_quotient ∈ GT := gm1 (i := 163) (by decide +kernel) rfl
theorem g_cd_yX8_quotient : Cond.code yX8_quotient cX8_quotient 6 (some .long) ∈ GT := gm1 (i := 164) (by decide +kernel) rfl
theorem g_kl_X8_141 : Cond.constantLong RX8 141 (9223372036854775807) ∈ GT := gm1 (i := 165) (by decide +kernel) rfl
theorem g_kl_X8_79 : Cond.constantLong RX8 79 (-1) ∈ GT := gm1 (i := 166) (by decide +kernel) rfl
theorem g_ml_L_57 : Cond.methodLink RL 57 yX8_signs ∈ GT := gm1 (i := 167) (by decide +kernel) rfl
theorem g_im_yX8_signs : Cond.instanceMethod yX8_signs ∈ GT := gm1 (i := 168) (by decide +kernel) rfl
theorem g_se_X8_yX8_signs_yX8_signs : Cond.selects RX8 yX8_signs yX8_signs ∈ GT := gm1 (i := 169) (by decide +kernel) rfl
theorem g_cd_yX8_signs : Cond.code yX8_signs cX8_signs 3 (some .int) ∈ GT := gm1 (i := 170) (by decide +kernel) rfl
theorem g_kc_X8_51 : Cond.constant RX8 51 (65535) ∈ GT := gm1 (i := 171) (by decide +kernel) rfl
theorem g_ml_X8_52 : Cond.methodLink RX8 52 yX8_isUpTo ∈ GT := gm1 (i := 172) (by decide +kernel) rfl
theorem g_st_yX8_isUpTo : Cond.static yX8_isUpTo ∈ GT := gm1 (i := 173) (by decide +kernel) rfl
theorem g_cd_yX8_isUpTo : Cond.code yX8_isUpTo cX8_isUpTo 2 (some .boolean) ∈ GT := gm1 (i := 174) (by decide +kernel) rfl
theorem g_ml_L_61 : Cond.methodLink RL 61 yX8_names ∈ GT := gm1 (i := 175) (by decide +kernel) rfl
theorem g_im_yX8_names : Cond.instanceMethod yX8_names ∈ GT := gm1 (i := 176) (by decide +kernel) rfl
theorem g_se_X8_yX8_names_yX8_names : Cond.selects RX8 yX8_names yX8_names ∈ GT := gm1 (i := 177) (by decide +kernel) rfl
theorem g_cd_yX8_names : Cond.code yX8_names cX8_names 5 (some .int) ∈ GT := gm1 (i := 178) (by decide +kernel) rfl
theorem g_cl_X8_60 : Cond.classLink RX8 60 RX4 ∈ GT := gm1 (i := 179) (by decide +kernel) rfl
theorem g_ins_X4 : Cond.instantiable RX4 6 ∈ GT := gm1 (i := 180) (by decide +kernel) rfl
theorem g_ml_X8_62 : Cond.methodLink RX8 62 yX4_init ∈ GT := gm1 (i := 181) (by decide +kernel) rfl
theorem g_im_yX4_init : Cond.instanceMethod yX4_init ∈ GT := gm1 (i := 182) (by decide +kernel) rfl
theorem g_cd_yX4_init : Cond.code yX4_init cX4_init 5 (none : Option Jvm.ClassFile.FieldType) ∈ GT := gm1 (i := 183) (by decide +kernel) rfl
theorem g_ml_X4_3 : Cond.methodLink RX4 3 yX7_init ∈ GT := gm1 (i := 184) (by decide +kernel) rfl
theorem g_fl_X4_9 : Cond.fieldLink RX4 9 "IndexRanges$Names" "around" "I" ∈ GT := gm1 (i := 185) (by decide +kernel) rfl
theorem g_fl_X4_15 : Cond.fieldLink RX4 15 "IndexRanges$Names" "first" "I" ∈ GT := gm1 (i := 186) (by decide +kernel) rfl
theorem g_sup_X4_X7 : Cond.superclass RX4 RX7 ∈ GT := gm1 (i := 195) (by decide +kernel) rfl
theorem g_ml_L_66 : Cond.methodLink RL 66 yX8_steps ∈ GT := gm1 (i := 196) (by decide +kernel) rfl
theorem g_im_yX8_steps : Cond.instanceMethod yX8_steps ∈ GT := gm1 (i := 197) (by decide +kernel) rfl
theorem g_se_X8_yX8_steps_yX8_steps : Cond.selects RX8 yX8_steps yX8_steps ∈ GT := gm1 (i := 198) (by decide +kernel) rfl
theorem g_cd_yX8_steps : Cond.code yX8_steps cX8_steps 6 (some .int) ∈ GT := gm1 (i := 199) (by decide +kernel) rfl
theorem g_kc_X8_69 : Cond.constant RX8 69 (-1000000) ∈ GT := gm1 (i := 200) (by decide +kernel) rfl
theorem g_kc_X8_70 : Cond.constant RX8 70 (1000000) ∈ GT := gm1 (i := 201) (by decide +kernel) rfl
theorem g_ml_L_71 : Cond.methodLink RL 71 yX8_back ∈ GT := gm1 (i := 202) (by decide +kernel) rfl
theorem g_im_yX8_back : Cond.instanceMethod yX8_back ∈ GT := gm1 (i := 203) (by decide +kernel) rfl
theorem g_se_X8_yX8_back_yX8_back : Cond.selects RX8 yX8_back yX8_back ∈ GT := gm1 (i := 204) (by decide +kernel) rfl
theorem g_cd_yX8_back : Cond.code yX8_back cX8_back 3 (some .int) ∈ GT := gm1 (i := 205) (by decide +kernel) rfl
theorem g_ml_X8_71 : Cond.methodLink RX8 71 yX8_rangeOf ∈ GT := gm1 (i := 206) (by decide +kernel) rfl
theorem g_im_yX8_rangeOf : Cond.instanceMethod yX8_rangeOf ∈ GT := gm1 (i := 208) (by decide +kernel) rfl
theorem g_cd_yX8_rangeOf : Cond.code yX8_rangeOf cX8_rangeOf 2 (some (.object "IndexRanges$Range")) ∈ GT := gm1 (i := 209) (by decide +kernel) rfl
theorem g_cl_X8_81 : Cond.classLink RX8 81 RX0 ∈ GT := gm1 (i := 210) (by decide +kernel) rfl
theorem g_ins_X0 : Cond.instantiable RX0 5 ∈ GT := gm1 (i := 211) (by decide +kernel) rfl
theorem g_ml_X8_83 : Cond.methodLink RX8 83 yX0_init ∈ GT := gm1 (i := 212) (by decide +kernel) rfl
theorem g_im_yX0_init : Cond.instanceMethod yX0_init ∈ GT := gm1 (i := 213) (by decide +kernel) rfl
theorem g_cd_yX0_init : Cond.code yX0_init cX0_init 3 (none : Option Jvm.ClassFile.FieldType) ∈ GT := gm1 (i := 214) (by decide +kernel) rfl
theorem g_ml_X0_13 : Cond.methodLink RX0 13 yX5_init ∈ GT := gm1 (i := 215) (by decide +kernel) rfl
theorem g_fl_X0_17 : Cond.fieldLink RX0 17 "IndexRanges$Back" "inner" "LIndexRanges$Range;" ∈ GT := gm1 (i := 216) (by decide +kernel) rfl
theorem g_sup_X0_X5 : Cond.superclass RX0 RX5 ∈ GT := gm1 (i := 223) (by decide +kernel) rfl
theorem g_ml_L_75 : Cond.methodLink RL 75 yX8_pair ∈ GT := gm1 (i := 224) (by decide +kernel) rfl
theorem g_im_yX8_pair : Cond.instanceMethod yX8_pair ∈ GT := gm1 (i := 225) (by decide +kernel) rfl
theorem g_se_X8_yX8_pair_yX8_pair : Cond.selects RX8 yX8_pair yX8_pair ∈ GT := gm1 (i := 226) (by decide +kernel) rfl
theorem g_cd_yX8_pair : Cond.code yX8_pair cX8_pair 5 (some .int) ∈ GT := gm1 (i := 227) (by decide +kernel) rfl
theorem g_ml_X8_86 : Cond.methodLink RX8 86 yX8_addBeside ∈ GT := gm1 (i := 228) (by decide +kernel) rfl
theorem g_im_yX8_addBeside : Cond.instanceMethod yX8_addBeside ∈ GT := gm1 (i := 230) (by decide +kernel) rfl
theorem g_cd_yX8_addBeside : Cond.code yX8_addBeside cX8_addBeside 10 (some .int) ∈ GT := gm1 (i := 231) (by decide +kernel) rfl
theorem g_ml_X8_207 : Cond.methodLink RX8 207 yX8_times ∈ GT := gm1 (i := 232) (by decide +kernel) rfl
theorem g_st_yX8_times : Cond.static yX8_times ∈ GT := gm1 (i := 233) (by decide +kernel) rfl
theorem g_cd_yX8_times : Cond.code yX8_times cX8_times 4 (some .long) ∈ GT := gm1 (i := 234) (by decide +kernel) rfl
theorem g_cl_X8_209 : Cond.classLink RX8 209 RX1 ∈ GT := gm1 (i := 235) (by decide +kernel) rfl
theorem g_ins_X1 : Cond.instantiable RX1 5 ∈ GT := gm1 (i := 236) (by decide +kernel) rfl
theorem g_ml_X8_211 : Cond.methodLink RX8 211 yX1_init ∈ GT := gm1 (i := 237) (by decide +kernel) rfl
theorem g_im_yX1_init : Cond.instanceMethod yX1_init ∈ GT := gm1 (i := 238) (by decide +kernel) rfl
theorem g_cd_yX1_init : Cond.code yX1_init cX1_init 7 (none : Option Jvm.ClassFile.FieldType) ∈ GT := gm1 (i := 239) (by decide +kernel) rfl
theorem g_ml_X1_3 : Cond.methodLink RX1 3 yX5_init ∈ GT := gm2 (i := 0) (by decide +kernel) rfl
theorem g_fl_X1_9 : Cond.fieldLink RX1 9 "IndexRanges$Beside" "parts" "[LIndexRanges$Range;" ∈ GT := gm2 (i := 1) (by decide +kernel) rfl
theorem g_sup_X1_X5 : Cond.superclass RX1 RX5 ∈ GT := gm2 (i := 8) (by decide +kernel) rfl
theorem g_ml_L_79 : Cond.methodLink RL 79 yX8_triple ∈ GT := gm2 (i := 9) (by decide +kernel) rfl
theorem g_im_yX8_triple : Cond.instanceMethod yX8_triple ∈ GT := gm2 (i := 10) (by decide +kernel) rfl
theorem g_se_X8_yX8_triple_yX8_triple : Cond.selects RX8 yX8_triple yX8_triple ∈ GT := gm2 (i := 11) (by decide +kernel) rfl
theorem g_cd_yX8_triple : Cond.code yX8_triple cX8_triple 7 (some .int) ∈ GT := gm2 (i := 12) (by decide +kernel) rfl
theorem g_ml_L_83 : Cond.methodLink RL 83 yX8_told ∈ GT := gm2 (i := 13) (by decide +kernel) rfl
theorem g_im_yX8_told : Cond.instanceMethod yX8_told ∈ GT := gm2 (i := 14) (by decide +kernel) rfl
theorem g_se_X8_yX8_told_yX8_told : Cond.selects RX8 yX8_told yX8_told ∈ GT := gm2 (i := 15) (by decide +kernel) rfl
theorem g_cd_yX8_told : Cond.code yX8_told cX8_told 4 (some .int) ∈ GT := gm2 (i := 16) (by decide +kernel) rfl
theorem g_ml_X8_96 : Cond.methodLink RX8 96 ⟨"IndexRanges$Range", "madeOf", "()I"⟩ ∈ GT := gm2 (i := 17) (by decide +kernel) rfl
theorem g_sm_X5_X5_madeOf : Cond.sameMethod RX5 RX5 "madeOf" "()I" ∈ GT := gm2 (i := 19) (by decide +kernel) rfl
theorem g_se_X0_X5_madeOf_1728_yX0_madeOf : Cond.selects RX0 ⟨"IndexRanges$Range", "madeOf", "()I"⟩ yX0_madeOf ∈ GT := gm2 (i := 20) (by decide +kernel) rfl
theorem g_im_yX0_madeOf : Cond.instanceMethod yX0_madeOf ∈ GT := gm2 (i := 21) (by decide +kernel) rfl
theorem g_cd_yX0_madeOf : Cond.code yX0_madeOf cX0_madeOf 1 (some .int) ∈ GT := gm2 (i := 22) (by decide +kernel) rfl
theorem g_se_X1_X5_madeOf_1728_yX1_madeOf : Cond.selects RX1 ⟨"IndexRanges$Range", "madeOf", "()I"⟩ yX1_madeOf ∈ GT := gm2 (i := 23) (by decide +kernel) rfl
theorem g_im_yX1_madeOf : Cond.instanceMethod yX1_madeOf ∈ GT := gm2 (i := 24) (by decide +kernel) rfl
theorem g_cd_yX1_madeOf : Cond.code yX1_madeOf cX1_madeOf 1 (some .int) ∈ GT := gm2 (i := 25) (by decide +kernel) rfl
theorem g_se_X4_X5_madeOf_1728_yX7_madeOf : Cond.selects RX4 ⟨"IndexRanges$Range", "madeOf", "()I"⟩ yX7_madeOf ∈ GT := gm2 (i := 26) (by decide +kernel) rfl
theorem g_im_yX7_madeOf : Cond.instanceMethod yX7_madeOf ∈ GT := gm2 (i := 27) (by decide +kernel) rfl
theorem g_cd_yX7_madeOf : Cond.code yX7_madeOf cX7_madeOf 1 (some .int) ∈ GT := gm2 (i := 28) (by decide +kernel) rfl
theorem g_se_X6_X5_madeOf_1728_yX7_madeOf : Cond.selects RX6 ⟨"IndexRanges$Range", "madeOf", "()I"⟩ yX7_madeOf ∈ GT := gm2 (i := 29) (by decide +kernel) rfl
theorem g_ml_L_87 : Cond.methodLink RL 87 yX8_size ∈ GT := gm2 (i := 30) (by decide +kernel) rfl
theorem g_im_yX8_size : Cond.instanceMethod yX8_size ∈ GT := gm2 (i := 31) (by decide +kernel) rfl
theorem g_se_X8_yX8_size_yX8_size : Cond.selects RX8 yX8_size yX8_size ∈ GT := gm2 (i := 32) (by decide +kernel) rfl
theorem g_cd_yX8_size : Cond.code yX8_size cX8_size 3 (some .long) ∈ GT := gm2 (i := 33) (by decide +kernel) rfl
theorem g_ml_X8_100 : Cond.methodLink RX8 100 yX8_longCode ∈ GT := gm2 (i := 34) (by decide +kernel) rfl
theorem g_st_yX8_longCode : Cond.static yX8_longCode ∈ GT := gm2 (i := 35) (by decide +kernel) rfl
theorem g_cd_yX8_longCode : Cond.code yX8_longCode cX8_longCode 1 (some .long) ∈ GT := gm2 (i := 36) (by decide +kernel) rfl
theorem g_kl_X8_196 : Cond.constantLong RX8 196 (1000000000) ∈ GT := gm2 (i := 37) (by decide +kernel) rfl
theorem g_ml_L_108 : Cond.methodLink RL 108 yX8_has ∈ GT := gm2 (i := 38) (by decide +kernel) rfl
theorem g_im_yX8_has : Cond.instanceMethod yX8_has ∈ GT := gm2 (i := 39) (by decide +kernel) rfl
theorem g_se_X8_yX8_has_yX8_has : Cond.selects RX8 yX8_has yX8_has ∈ GT := gm2 (i := 40) (by decide +kernel) rfl
theorem g_cd_yX8_has : Cond.code yX8_has cX8_has 3 (some .int) ∈ GT := gm2 (i := 41) (by decide +kernel) rfl
theorem g_ml_X8_118 : Cond.methodLink RX8 118 yX8_placeOfHand ∈ GT := gm2 (i := 42) (by decide +kernel) rfl
theorem g_im_yX8_placeOfHand : Cond.instanceMethod yX8_placeOfHand ∈ GT := gm2 (i := 44) (by decide +kernel) rfl
theorem g_cd_yX8_placeOfHand : Cond.code yX8_placeOfHand cX8_placeOfHand 2 (some .long) ∈ GT := gm2 (i := 45) (by decide +kernel) rfl
theorem g_ml_X8_214 : Cond.methodLink RX8 214 ⟨"IndexRanges$Range", "place", "(LIndexRanges$Hand;IILIndexRanges$Miss;)J"⟩ ∈ GT := gm2 (i := 46) (by decide +kernel) rfl
theorem g_sm_X5_X5_place : Cond.sameMethod RX5 RX5 "place" "(LIndexRanges$Hand;IILIndexRanges$Miss;)J" ∈ GT := gm2 (i := 48) (by decide +kernel) rfl
theorem g_se_X0_X5_place_4ad2_yX0_place : Cond.selects RX0 ⟨"IndexRanges$Range", "place", "(LIndexRanges$Hand;IILIndexRanges$Miss;)J"⟩ yX0_place ∈ GT := gm2 (i := 49) (by decide +kernel) rfl
theorem g_im_yX0_place : Cond.instanceMethod yX0_place ∈ GT := gm2 (i := 50) (by decide +kernel) rfl
theorem g_cd_yX0_place : Cond.code yX0_place cX0_place 7 (some .long) ∈ GT := gm2 (i := 51) (by decide +kernel) rfl
theorem g_ml_X0_23 : Cond.methodLink RX0 23 ⟨"IndexRanges$Range", "place", "(LIndexRanges$Hand;IILIndexRanges$Miss;)J"⟩ ∈ GT := gm2 (i := 52) (by decide +kernel) rfl
theorem g_im_yX1_place : Cond.instanceMethod yX1_place ∈ GT := gm2 (i := 53) (by decide +kernel) rfl
theorem g_cd_yX1_place : Cond.code yX1_place cX1_place 14 (some .long) ∈ GT := gm2 (i := 54) (by decide +kernel) rfl
theorem g_ml_X1_15 : Cond.methodLink RX1 15 ⟨"IndexRanges$Range", "place", "(LIndexRanges$Hand;IILIndexRanges$Miss;)J"⟩ ∈ GT := gm2 (i := 55) (by decide +kernel) rfl
theorem g_im_yX7_place : Cond.instanceMethod yX7_place ∈ GT := gm2 (i := 56) (by decide +kernel) rfl
theorem g_cd_yX7_place : Cond.code yX7_place cX7_place 7 (some .long) ∈ GT := gm2 (i := 57) (by decide +kernel) rfl
theorem g_ml_X7_9 : Cond.methodLink RX7 9 yX2_look ∈ GT := gm2 (i := 58) (by decide +kernel) rfl
theorem g_im_yX2_look : Cond.instanceMethod yX2_look ∈ GT := gm2 (i := 59) (by decide +kernel) rfl
theorem g_se_X2_yX2_look_yX2_look : Cond.selects RX2 yX2_look yX2_look ∈ GT := gm2 (i := 60) (by decide +kernel) rfl
theorem g_cd_yX2_look : Cond.code yX2_look cX2_look 2 (some .long) ∈ GT := gm2 (i := 61) (by decide +kernel) rfl
theorem g_ml_X7_15 : Cond.methodLink RX7 15 ⟨"IndexRanges$Single", "placeOf", "(J)J"⟩ ∈ GT := gm2 (i := 62) (by decide +kernel) rfl
theorem g_sm_X7_X7_placeOf : Cond.sameMethod RX7 RX7 "placeOf" "(J)J" ∈ GT := gm2 (i := 64) (by decide +kernel) rfl
theorem g_se_X4_X7_placeOf_467d_yX4_placeOf : Cond.selects RX4 ⟨"IndexRanges$Single", "placeOf", "(J)J"⟩ yX4_placeOf ∈ GT := gm2 (i := 65) (by decide +kernel) rfl
theorem g_im_yX4_placeOf : Cond.instanceMethod yX4_placeOf ∈ GT := gm2 (i := 66) (by decide +kernel) rfl
theorem g_cd_yX4_placeOf : Cond.code yX4_placeOf cX4_placeOf 5 (some .long) ∈ GT := gm2 (i := 67) (by decide +kernel) rfl
theorem g_kl_X4_18 : Cond.constantLong RX4 18 (-2) ∈ GT := gm2 (i := 68) (by decide +kernel) rfl
theorem g_se_X6_X7_placeOf_467d_yX6_placeOf : Cond.selects RX6 ⟨"IndexRanges$Single", "placeOf", "(J)J"⟩ yX6_placeOf ∈ GT := gm2 (i := 69) (by decide +kernel) rfl
theorem g_im_yX6_placeOf : Cond.instanceMethod yX6_placeOf ∈ GT := gm2 (i := 70) (by decide +kernel) rfl
theorem g_cd_yX6_placeOf : Cond.code yX6_placeOf cX6_placeOf 11 (some .long) ∈ GT := gm2 (i := 71) (by decide +kernel) rfl
theorem g_kl_X6_25 : Cond.constantLong RX6 25 (-2) ∈ GT := gm2 (i := 72) (by decide +kernel) rfl
theorem g_kl_X6_31 : Cond.constantLong RX6 31 (-1) ∈ GT := gm2 (i := 74) (by decide +kernel) rfl
theorem g_kl_X7_21 : Cond.constantLong RX7 21 (-2) ∈ GT := gm2 (i := 75) (by decide +kernel) rfl
theorem g_ml_X7_27 : Cond.methodLink RX7 27 yX3_note ∈ GT := gm2 (i := 76) (by decide +kernel) rfl
theorem g_im_yX3_note : Cond.instanceMethod yX3_note ∈ GT := gm2 (i := 77) (by decide +kernel) rfl
theorem g_se_X3_yX3_note_yX3_note : Cond.selects RX3 yX3_note yX3_note ∈ GT := gm2 (i := 78) (by decide +kernel) rfl
theorem g_cd_yX3_note : Cond.code yX3_note cX3_note 4 (none : Option Jvm.ClassFile.FieldType) ∈ GT := gm2 (i := 79) (by decide +kernel) rfl
theorem g_kl_X1_19 : Cond.constantLong RX1 19 (-2) ∈ GT := gm2 (i := 80) (by decide +kernel) rfl
theorem g_st_yX8_plus : Cond.static yX8_plus ∈ GT := gm2 (i := 83) (by decide +kernel) rfl
theorem g_cd_yX8_plus : Cond.code yX8_plus cX8_plus 4 (some .long) ∈ GT := gm2 (i := 84) (by decide +kernel) rfl
theorem g_kl_X0_27 : Cond.constantLong RX0 27 (-2) ∈ GT := gm2 (i := 85) (by decide +kernel) rfl
theorem g_se_X1_X5_place_4ad2_yX1_place : Cond.selects RX1 ⟨"IndexRanges$Range", "place", "(LIndexRanges$Hand;IILIndexRanges$Miss;)J"⟩ yX1_place ∈ GT := gm2 (i := 86) (by decide +kernel) rfl
theorem g_se_X4_X5_place_4ad2_yX7_place : Cond.selects RX4 ⟨"IndexRanges$Range", "place", "(LIndexRanges$Hand;IILIndexRanges$Miss;)J"⟩ yX7_place ∈ GT := gm2 (i := 87) (by decide +kernel) rfl
theorem g_se_X6_X5_place_4ad2_yX7_place : Cond.selects RX6 ⟨"IndexRanges$Range", "place", "(LIndexRanges$Hand;IILIndexRanges$Miss;)J"⟩ yX7_place ∈ GT := gm2 (i := 88) (by decide +kernel) rfl
theorem g_kl_X8_122 : Cond.constantLong RX8 122 (-2) ∈ GT := gm2 (i := 89) (by decide +kernel) rfl
theorem g_ml_L_118 : Cond.methodLink RL 118 yX8_miss ∈ GT := gm2 (i := 90) (by decide +kernel) rfl
theorem g_im_yX8_miss : Cond.instanceMethod yX8_miss ∈ GT := gm2 (i := 91) (by decide +kernel) rfl
theorem g_se_X8_yX8_miss_yX8_miss : Cond.selects RX8 yX8_miss yX8_miss ∈ GT := gm2 (i := 92) (by decide +kernel) rfl
theorem g_cd_yX8_miss : Cond.code yX8_miss cX8_miss 2 (some .int) ∈ GT := gm2 (i := 93) (by decide +kernel) rfl
theorem g_ml_L_122 : Cond.methodLink RL 122 yX8_within ∈ GT := gm2 (i := 94) (by decide +kernel) rfl
theorem g_im_yX8_within : Cond.instanceMethod yX8_within ∈ GT := gm2 (i := 95) (by decide +kernel) rfl
theorem g_se_X8_yX8_within_yX8_within : Cond.selects RX8 yX8_within yX8_within ∈ GT := gm2 (i := 96) (by decide +kernel) rfl
theorem g_cd_yX8_within : Cond.code yX8_within cX8_within 5 (some .int) ∈ GT := gm2 (i := 97) (by decide +kernel) rfl
theorem g_ml_X8_157 : Cond.methodLink RX8 157 yX8_liesWithin ∈ GT := gm2 (i := 98) (by decide +kernel) rfl
theorem g_st_yX8_liesWithin : Cond.static yX8_liesWithin ∈ GT := gm2 (i := 99) (by decide +kernel) rfl
theorem g_cd_yX8_liesWithin : Cond.code yX8_liesWithin cX8_liesWithin 5 (some .boolean) ∈ GT := gm2 (i := 100) (by decide +kernel) rfl
theorem g_ml_X8_218 : Cond.methodLink RX8 218 ⟨"IndexRanges$Range", "singleAt", "(I)LIndexRanges$Single;"⟩ ∈ GT := gm2 (i := 101) (by decide +kernel) rfl
theorem g_sm_X5_X5_singleAt : Cond.sameMethod RX5 RX5 "singleAt" "(I)LIndexRanges$Single;" ∈ GT := gm2 (i := 103) (by decide +kernel) rfl
theorem g_se_X0_X5_singleAt_591b_yX0_singleAt : Cond.selects RX0 ⟨"IndexRanges$Range", "singleAt", "(I)LIndexRanges$Single;"⟩ yX0_singleAt ∈ GT := gm2 (i := 104) (by decide +kernel) rfl
theorem g_im_yX0_singleAt : Cond.instanceMethod yX0_singleAt ∈ GT := gm2 (i := 105) (by decide +kernel) rfl
theorem g_cd_yX0_singleAt : Cond.code yX0_singleAt cX0_singleAt 2 (some (.object "IndexRanges$Single")) ∈ GT := gm2 (i := 106) (by decide +kernel) rfl
theorem g_ml_X0_34 : Cond.methodLink RX0 34 ⟨"IndexRanges$Range", "singleAt", "(I)LIndexRanges$Single;"⟩ ∈ GT := gm2 (i := 107) (by decide +kernel) rfl
theorem g_im_yX1_singleAt : Cond.instanceMethod yX1_singleAt ∈ GT := gm2 (i := 108) (by decide +kernel) rfl
theorem g_cd_yX1_singleAt : Cond.code yX1_singleAt cX1_singleAt 7 (some (.object "IndexRanges$Single")) ∈ GT := gm2 (i := 109) (by decide +kernel) rfl
theorem g_ml_X1_41 : Cond.methodLink RX1 41 ⟨"IndexRanges$Range", "singleAt", "(I)LIndexRanges$Single;"⟩ ∈ GT := gm2 (i := 110) (by decide +kernel) rfl
theorem g_im_yX7_singleAt : Cond.instanceMethod yX7_singleAt ∈ GT := gm2 (i := 111) (by decide +kernel) rfl
theorem g_cd_yX7_singleAt : Cond.code yX7_singleAt cX7_singleAt 2 (some (.object "IndexRanges$Single")) ∈ GT := gm2 (i := 112) (by decide +kernel) rfl
theorem g_se_X1_X5_singleAt_591b_yX1_singleAt : Cond.selects RX1 ⟨"IndexRanges$Range", "singleAt", "(I)LIndexRanges$Single;"⟩ yX1_singleAt ∈ GT := gm2 (i := 113) (by decide +kernel) rfl
theorem g_se_X4_X5_singleAt_591b_yX7_singleAt : Cond.selects RX4 ⟨"IndexRanges$Range", "singleAt", "(I)LIndexRanges$Single;"⟩ yX7_singleAt ∈ GT := gm2 (i := 114) (by decide +kernel) rfl
theorem g_se_X6_X5_singleAt_591b_yX7_singleAt : Cond.selects RX6 ⟨"IndexRanges$Range", "singleAt", "(I)LIndexRanges$Single;"⟩ yX7_singleAt ∈ GT := gm2 (i := 115) (by decide +kernel) rfl
theorem g_ml_X8_222 : Cond.methodLink RX8 222 ⟨"IndexRanges$Single", "liesIn", "(LIndexRanges$Single;)Z"⟩ ∈ GT := gm2 (i := 116) (by decide +kernel) rfl
theorem g_sm_X7_X7_liesIn : Cond.sameMethod RX7 RX7 "liesIn" "(LIndexRanges$Single;)Z" ∈ GT := gm2 (i := 118) (by decide +kernel) rfl
theorem g_se_X4_X7_liesIn_7dde_yX4_liesIn : Cond.selects RX4 ⟨"IndexRanges$Single", "liesIn", "(LIndexRanges$Single;)Z"⟩ yX4_liesIn ∈ GT := gm2 (i := 119) (by decide +kernel) rfl
theorem g_im_yX4_liesIn : Cond.instanceMethod yX4_liesIn ∈ GT := gm2 (i := 120) (by decide +kernel) rfl
theorem g_cd_yX4_liesIn : Cond.code yX4_liesIn cX4_liesIn 2 (some .boolean) ∈ GT := gm2 (i := 121) (by decide +kernel) rfl
theorem g_ml_X4_24 : Cond.methodLink RX4 24 ⟨"IndexRanges$Names", "eachLiesIn", "(LIndexRanges$Single;)Z"⟩ ∈ GT := gm2 (i := 122) (by decide +kernel) rfl
theorem g_sm_X4_X7_eachLiesIn : Cond.sameMethod RX4 RX7 "eachLiesIn" "(LIndexRanges$Single;)Z" ∈ GT := gm2 (i := 123) (by decide +kernel) rfl
theorem g_se_X4_X4_eachLiesIn_7dde_yX7_eachLiesIn : Cond.selects RX4 ⟨"IndexRanges$Names", "eachLiesIn", "(LIndexRanges$Single;)Z"⟩ yX7_eachLiesIn ∈ GT := gm2 (i := 125) (by decide +kernel) rfl
theorem g_im_yX7_eachLiesIn : Cond.instanceMethod yX7_eachLiesIn ∈ GT := gm2 (i := 126) (by decide +kernel) rfl
theorem g_cd_yX7_eachLiesIn : Cond.code yX7_eachLiesIn cX7_eachLiesIn 3 (some .boolean) ∈ GT := gm2 (i := 127) (by decide +kernel) rfl
theorem g_kl_X7_44 : Cond.constantLong RX7 44 (-1) ∈ GT := gm2 (i := 128) (by decide +kernel) rfl
theorem g_kl_X7_46 : Cond.constantLong RX7 46 (20) ∈ GT := gm2 (i := 129) (by decide +kernel) rfl
theorem g_ml_X7_33 : Cond.methodLink RX7 33 ⟨"IndexRanges$Single", "valueAt", "(J)J"⟩ ∈ GT := gm2 (i := 130) (by decide +kernel) rfl
theorem g_sm_X7_X7_valueAt : Cond.sameMethod RX7 RX7 "valueAt" "(J)J" ∈ GT := gm2 (i := 132) (by decide +kernel) rfl
theorem g_se_X4_X7_valueAt_467d_yX4_valueAt : Cond.selects RX4 ⟨"IndexRanges$Single", "valueAt", "(J)J"⟩ yX4_valueAt ∈ GT := gm2 (i := 133) (by decide +kernel) rfl
theorem g_im_yX4_valueAt : Cond.instanceMethod yX4_valueAt ∈ GT := gm2 (i := 134) (by decide +kernel) rfl
theorem g_cd_yX4_valueAt : Cond.code yX4_valueAt cX4_valueAt 5 (some .long) ∈ GT := gm2 (i := 135) (by decide +kernel) rfl
theorem g_se_X6_X7_valueAt_467d_yX6_valueAt : Cond.selects RX6 ⟨"IndexRanges$Single", "valueAt", "(J)J"⟩ yX6_valueAt ∈ GT := gm2 (i := 136) (by decide +kernel) rfl
theorem g_im_yX6_valueAt : Cond.instanceMethod yX6_valueAt ∈ GT := gm2 (i := 137) (by decide +kernel) rfl
theorem g_cd_yX6_valueAt : Cond.code yX6_valueAt cX6_valueAt 3 (some .long) ∈ GT := gm2 (i := 138) (by decide +kernel) rfl
theorem g_se_X6_X7_liesIn_7dde_yX6_liesIn : Cond.selects RX6 ⟨"IndexRanges$Single", "liesIn", "(LIndexRanges$Single;)Z"⟩ yX6_liesIn ∈ GT := gm2 (i := 139) (by decide +kernel) rfl
theorem g_im_yX6_liesIn : Cond.instanceMethod yX6_liesIn ∈ GT := gm2 (i := 140) (by decide +kernel) rfl
theorem g_cd_yX6_liesIn : Cond.code yX6_liesIn cX6_liesIn 3 (some .boolean) ∈ GT := gm2 (i := 141) (by decide +kernel) rfl
theorem g_cl_X6_10 : Cond.classLink RX6 10 RX6 ∈ GT := gm2 (i := 142) (by decide +kernel) rfl
theorem g_ml_X6_33 : Cond.methodLink RX6 33 yX6_liesInRow ∈ GT := gm2 (i := 143) (by decide +kernel) rfl
theorem g_im_yX6_liesInRow : Cond.instanceMethod yX6_liesInRow ∈ GT := gm2 (i := 145) (by decide +kernel) rfl
theorem g_cd_yX6_liesInRow : Cond.code yX6_liesInRow cX6_liesInRow 2 (some .boolean) ∈ GT := gm2 (i := 146) (by decide +kernel) rfl
theorem g_ml_X6_41 : Cond.methodLink RX6 41 yX6_placeOf ∈ GT := gm2 (i := 147) (by decide +kernel) rfl
theorem g_ml_X6_37 : Cond.methodLink RX6 37 ⟨"IndexRanges$Row", "eachLiesIn", "(LIndexRanges$Single;)Z"⟩ ∈ GT := gm2 (i := 148) (by decide +kernel) rfl
theorem g_sm_X6_X7_eachLiesIn : Cond.sameMethod RX6 RX7 "eachLiesIn" "(LIndexRanges$Single;)Z" ∈ GT := gm2 (i := 149) (by decide +kernel) rfl
theorem g_se_X6_X6_eachLiesIn_7dde_yX7_eachLiesIn : Cond.selects RX6 ⟨"IndexRanges$Row", "eachLiesIn", "(LIndexRanges$Single;)Z"⟩ yX7_eachLiesIn ∈ GT := gm2 (i := 150) (by decide +kernel) rfl
theorem g_ml_L_136 : Cond.methodLink RL 136 yX8_sum ∈ GT := gm2 (i := 151) (by decide +kernel) rfl
theorem g_im_yX8_sum : Cond.instanceMethod yX8_sum ∈ GT := gm2 (i := 152) (by decide +kernel) rfl
theorem g_se_X8_yX8_sum_yX8_sum : Cond.selects RX8 yX8_sum yX8_sum ∈ GT := gm2 (i := 153) (by decide +kernel) rfl
theorem g_cd_yX8_sum : Cond.code yX8_sum cX8_sum 9 (some .long) ∈ GT := gm2 (i := 154) (by decide +kernel) rfl
theorem g_ml_X8_178 : Cond.methodLink RX8 178 yX8_baseOf ∈ GT := gm2 (i := 155) (by decide +kernel) rfl
theorem g_im_yX8_baseOf : Cond.instanceMethod yX8_baseOf ∈ GT := gm2 (i := 157) (by decide +kernel) rfl
theorem g_cd_yX8_baseOf : Cond.code yX8_baseOf cX8_baseOf 2 (some (.object "IndexRanges$Range")) ∈ GT := gm2 (i := 158) (by decide +kernel) rfl
theorem g_ml_X8_135 : Cond.methodLink RX8 135 ⟨"IndexRanges$Range", "fill", "(LIndexRanges$Hand;IJ)V"⟩ ∈ GT := gm2 (i := 159) (by decide +kernel) rfl
theorem g_sm_X5_X5_fill : Cond.sameMethod RX5 RX5 "fill" "(LIndexRanges$Hand;IJ)V" ∈ GT := gm2 (i := 161) (by decide +kernel) rfl
theorem g_se_X0_X5_fill_66fc_yX0_fill : Cond.selects RX0 ⟨"IndexRanges$Range", "fill", "(LIndexRanges$Hand;IJ)V"⟩ yX0_fill ∈ GT := gm2 (i := 162) (by decide +kernel) rfl
theorem g_im_yX0_fill : Cond.instanceMethod yX0_fill ∈ GT := gm2 (i := 163) (by decide +kernel) rfl
theorem g_cd_yX0_fill : Cond.code yX0_fill cX0_fill 5 (none : Option Jvm.ClassFile.FieldType) ∈ GT := gm2 (i := 164) (by decide +kernel) rfl
theorem g_ml_X0_30 : Cond.methodLink RX0 30 ⟨"IndexRanges$Range", "fill", "(LIndexRanges$Hand;IJ)V"⟩ ∈ GT := gm2 (i := 165) (by decide +kernel) rfl
theorem g_im_yX1_fill : Cond.instanceMethod yX1_fill ∈ GT := gm2 (i := 166) (by decide +kernel) rfl
theorem g_cd_yX1_fill : Cond.code yX1_fill cX1_fill 11 (none : Option Jvm.ClassFile.FieldType) ∈ GT := gm2 (i := 167) (by decide +kernel) rfl
theorem g_ml_X1_37 : Cond.methodLink RX1 37 ⟨"IndexRanges$Range", "fill", "(LIndexRanges$Hand;IJ)V"⟩ ∈ GT := gm2 (i := 168) (by decide +kernel) rfl
theorem g_im_yX7_fill : Cond.instanceMethod yX7_fill ∈ GT := gm2 (i := 169) (by decide +kernel) rfl
theorem g_cd_yX7_fill : Cond.code yX7_fill cX7_fill 5 (none : Option Jvm.ClassFile.FieldType) ∈ GT := gm2 (i := 170) (by decide +kernel) rfl
theorem g_ml_X7_36 : Cond.methodLink RX7 36 yX2_take ∈ GT := gm2 (i := 171) (by decide +kernel) rfl
theorem g_im_yX2_take : Cond.instanceMethod yX2_take ∈ GT := gm2 (i := 172) (by decide +kernel) rfl
theorem g_se_X2_yX2_take_yX2_take : Cond.selects RX2 yX2_take yX2_take ∈ GT := gm2 (i := 173) (by decide +kernel) rfl
theorem g_cd_yX2_take : Cond.code yX2_take cX2_take 4 (none : Option Jvm.ClassFile.FieldType) ∈ GT := gm2 (i := 174) (by decide +kernel) rfl
theorem g_se_X1_X5_fill_66fc_yX1_fill : Cond.selects RX1 ⟨"IndexRanges$Range", "fill", "(LIndexRanges$Hand;IJ)V"⟩ yX1_fill ∈ GT := gm2 (i := 175) (by decide +kernel) rfl
theorem g_se_X4_X5_fill_66fc_yX7_fill : Cond.selects RX4 ⟨"IndexRanges$Range", "fill", "(LIndexRanges$Hand;IJ)V"⟩ yX7_fill ∈ GT := gm2 (i := 176) (by decide +kernel) rfl
theorem g_se_X6_X5_fill_66fc_yX7_fill : Cond.selects RX6 ⟨"IndexRanges$Range", "fill", "(LIndexRanges$Hand;IJ)V"⟩ yX7_fill ∈ GT := gm2 (i := 177) (by decide +kernel) rfl
theorem g_ml_X8_111 : Cond.methodLink RX8 111 yX2_look ∈ GT := gm2 (i := 178) (by decide +kernel) rfl
theorem g_ml_L_141 : Cond.methodLink RL 141 yX8_over ∈ GT := gm2 (i := 179) (by decide +kernel) rfl
theorem g_im_yX8_over : Cond.instanceMethod yX8_over ∈ GT := gm2 (i := 180) (by decide +kernel) rfl
theorem g_se_X8_yX8_over_yX8_over : Cond.selects RX8 yX8_over yX8_over ∈ GT := gm2 (i := 181) (by decide +kernel) rfl
theorem g_cd_yX8_over : Cond.code yX8_over cX8_over 3 (some .int) ∈ GT := gm2 (i := 182) (by decide +kernel) rfl
theorem g_ml_L_145 : Cond.methodLink RL 145 yX8_count ∈ GT := gm2 (i := 183) (by decide +kernel) rfl
theorem g_im_yX8_count : Cond.instanceMethod yX8_count ∈ GT := gm2 (i := 184) (by decide +kernel) rfl
theorem g_se_X8_yX8_count_yX8_count : Cond.selects RX8 yX8_count yX8_count ∈ GT := gm2 (i := 185) (by decide +kernel) rfl
theorem g_cd_yX8_count : Cond.code yX8_count cX8_count 2 (some .int) ∈ GT := gm2 (i := 186) (by decide +kernel) rfl
theorem g_ml_X8_187 : Cond.methodLink RX8 187 yX8_cellsInUse ∈ GT := gm2 (i := 187) (by decide +kernel) rfl
theorem g_im_yX8_cellsInUse : Cond.instanceMethod yX8_cellsInUse ∈ GT := gm2 (i := 189) (by decide +kernel) rfl
theorem g_cd_yX8_cellsInUse : Cond.code yX8_cellsInUse cX8_cellsInUse 3 (some .int) ∈ GT := gm2 (i := 190) (by decide +kernel) rfl
theorem g_ml_L_149 : Cond.methodLink RL 149 yX8_clear ∈ GT := gm2 (i := 191) (by decide +kernel) rfl
theorem g_im_yX8_clear : Cond.instanceMethod yX8_clear ∈ GT := gm2 (i := 192) (by decide +kernel) rfl
theorem g_se_X8_yX8_clear_yX8_clear : Cond.selects RX8 yX8_clear yX8_clear ∈ GT := gm2 (i := 193) (by decide +kernel) rfl
theorem g_cd_yX8_clear : Cond.code yX8_clear cX8_clear 2 (some .int) ∈ GT := gm2 (i := 194) (by decide +kernel) rfl
theorem g_ml_X8_190 : Cond.methodLink RX8 190 yX2_drop ∈ GT := gm2 (i := 195) (by decide +kernel) rfl
theorem g_im_yX2_drop : Cond.instanceMethod yX2_drop ∈ GT := gm2 (i := 196) (by decide +kernel) rfl
theorem g_se_X2_yX2_drop_yX2_drop : Cond.selects RX2 yX2_drop yX2_drop ∈ GT := gm2 (i := 197) (by decide +kernel) rfl
theorem g_cd_yX2_drop : Cond.code yX2_drop cX2_drop 1 (none : Option Jvm.ClassFile.FieldType) ∈ GT := gm2 (i := 198) (by decide +kernel) rfl
theorem g_ml_X2_15 : Cond.methodLink RX2 15 yJ7_fill_d0a16 ∈ GT := gm2 (i := 199) (by decide +kernel) rfl
theorem g_st_yJ7_fill_d0a16 : Cond.static yJ7_fill_d0a16 ∈ GT := gm2 (i := 200) (by decide +kernel) rfl
theorem g_cd_yJ7_fill_d0a16 : Cond.code yJ7_fill_d0a16 cJ7_fill_d0a16 5 (none : Option Jvm.ClassFile.FieldType) ∈ GT := gm2 (i := 201) (by decide +kernel) rfl
theorem g_ml_X8_193 : Cond.methodLink RX8 193 yX3_forget ∈ GT := gm2 (i := 202) (by decide +kernel) rfl
theorem g_im_yX3_forget : Cond.instanceMethod yX3_forget ∈ GT := gm2 (i := 203) (by decide +kernel) rfl
theorem g_se_X3_yX3_forget_yX3_forget : Cond.selects RX3 yX3_forget yX3_forget ∈ GT := gm2 (i := 204) (by decide +kernel) rfl
theorem g_cd_yX3_forget : Cond.code yX3_forget cX3_forget 1 (none : Option Jvm.ClassFile.FieldType) ∈ GT := gm2 (i := 205) (by decide +kernel) rfl
theorem g_ml_L_91 : Cond.methodLink RL 91 yL_hold ∈ GT := gm2 (i := 206) (by decide +kernel) rfl
theorem g_st_yL_hold : Cond.static yL_hold ∈ GT := gm2 (i := 207) (by decide +kernel) rfl
theorem g_cw_yL_hold : Cond.codeWith yL_hold cL_hold 6 (some .int) [(0, 10, 13, 13)] ∈ GT := gm2 (i := 208) (by decide +kernel) rfl
theorem g_cl_L_13 : Cond.classLink RL 13 RJx00060 ∈ GT := gm2 (i := 209) (by decide +kernel) rfl
theorem g_ins_Jx00060 : Cond.instantiable RJx00060 6 ∈ GT := gm2 (i := 210) (by decide +kernel) rfl
theorem g_im_yJx00060_init_a7421 : Cond.instanceMethod yJx00060_init_a7421 ∈ GT := gm2 (i := 211) (by decide +kernel) rfl
theorem g_cd_yJx00060_init_a7421 : Cond.code yJx00060_init_a7421 cJx00060_init_a7421 2 (none : Option Jvm.ClassFile.FieldType) ∈ GT := gm2 (i := 212) (by decide +kernel) rfl
theorem g_ml_Jx00060_7 : Cond.methodLink RJx00060 7 ⟨"java/lang/IndexOutOfBoundsException", "<init>", "(Ljava/lang/String;)V"⟩ ∈ GT := gm2 (i := 213) (by decide +kernel) rfl
theorem g_im_java_lang_IndexOutOfBoundsException__init__db43 : Cond.instanceMethod ⟨"java/lang/IndexOutOfBoundsException", "<init>", "(Ljava/lang/String;)V"⟩ ∈ GT := gm2 (i := 214) (by decide +kernel) rfl
theorem g_cd_java_lang_IndexOutOfBoundsException__init__db43 : Cond.code ⟨"java/lang/IndexOutOfBoundsException", "<init>", "(Ljava/lang/String;)V"⟩ prog_15_method_2_code 2 (none : Option Jvm.ClassFile.FieldType) ∈ GT := gm2 (i := 215) (by decide +kernel) rfl
theorem g_ml_java_lang_IndexOutOfBoundsException_7 : Cond.methodLink "java/lang/IndexOutOfBoundsException" 7 ⟨"java/lang/RuntimeException", "<init>", "(Ljava/lang/String;)V"⟩ ∈ GT := gm2 (i := 216) (by decide +kernel) rfl
theorem g_im_java_lang_RuntimeException__init__db43 : Cond.instanceMethod ⟨"java/lang/RuntimeException", "<init>", "(Ljava/lang/String;)V"⟩ ∈ GT := gm2 (i := 217) (by decide +kernel) rfl
theorem g_cd_java_lang_RuntimeException__init__db43 : Cond.code ⟨"java/lang/RuntimeException", "<init>", "(Ljava/lang/String;)V"⟩ prog_17_method_2_code 2 (none : Option Jvm.ClassFile.FieldType) ∈ GT := gm2 (i := 218) (by decide +kernel) rfl
theorem g_ml_java_lang_RuntimeException_7 : Cond.methodLink "java/lang/RuntimeException" 7 ⟨"java/lang/Exception", "<init>", "(Ljava/lang/String;)V"⟩ ∈ GT := gm2 (i := 219) (by decide +kernel) rfl
theorem g_im_java_lang_Exception__init__db43 : Cond.instanceMethod ⟨"java/lang/Exception", "<init>", "(Ljava/lang/String;)V"⟩ ∈ GT := gm2 (i := 220) (by decide +kernel) rfl
theorem g_cd_java_lang_Exception__init__db43 : Cond.code ⟨"java/lang/Exception", "<init>", "(Ljava/lang/String;)V"⟩ prog_13_method_2_code 2 (none : Option Jvm.ClassFile.FieldType) ∈ GT := gm2 (i := 221) (by decide +kernel) rfl
theorem g_ml_java_lang_Exception_7 : Cond.methodLink "java/lang/Exception" 7 ⟨"java/lang/Throwable", "<init>", "(Ljava/lang/String;)V"⟩ ∈ GT := gm2 (i := 222) (by decide +kernel) rfl
theorem g_im_java_lang_Throwable__init__db43 : Cond.instanceMethod ⟨"java/lang/Throwable", "<init>", "(Ljava/lang/String;)V"⟩ ∈ GT := gm2 (i := 223) (by decide +kernel) rfl
theorem g_cd_java_lang_Throwable__init__db43 : Cond.code ⟨"java/lang/Throwable", "<init>", "(Ljava/lang/String;)V"⟩ prog_19_method_2_code 2 (none : Option Jvm.ClassFile.FieldType) ∈ GT := gm2 (i := 224) (by decide +kernel) rfl
theorem g_ml_java_lang_Throwable_1 : Cond.methodLink "java/lang/Throwable" 1 ⟨"java/lang/Object", "<init>", "()V"⟩ ∈ GT := gm2 (i := 225) (by decide +kernel) rfl
theorem g_fl_java_lang_Throwable_13 : Cond.fieldLink "java/lang/Throwable" 13 "java/lang/Throwable" "UNASSIGNED_STACK" "[Ljava/lang/StackTraceElement;" ∈ GT := gm2 (i := 226) (by decide +kernel) rfl
theorem g_fl_java_lang_Throwable_20 : Cond.fieldLink "java/lang/Throwable" 20 "java/lang/Throwable" "SUPPRESSED_SENTINEL" "Ljava/util/List;" ∈ GT := gm2 (i := 228) (by decide +kernel) rfl
theorem g_ml_java_lang_Throwable_27 : Cond.methodLink "java/lang/Throwable" 27 ⟨"java/lang/Throwable", "fillInStackTrace", "()Ljava/lang/Throwable;"⟩ ∈ GT := gm2 (i := 230) (by decide +kernel) rfl
theorem g_im_java_lang_Throwable_fillInStackTrace_4ef2 : Cond.instanceMethod ⟨"java/lang/Throwable", "fillInStackTrace", "()Ljava/lang/Throwable;"⟩ ∈ GT := gm2 (i := 231) (by decide +kernel) rfl
theorem g_se_Jx00060_java_lang_Throwable_fillInStackTrace_4ef2_java_lang_Throwable_fillInStackTrace_4ef2 : Cond.selects RJx00060 ⟨"java/lang/Throwable", "fillInStackTrace", "()Ljava/lang/Throwable;"⟩ ⟨"java/lang/Throwable", "fillInStackTrace", "()Ljava/lang/Throwable;"⟩ ∈ GT := gm2 (i := 233) (by decide +kernel) rfl
theorem g_se_java_lang_IllegalArgumentException_java_lang_Throwable_fillInStackTrace_4ef2_java_lang_Throwable_fillInStackTrace_4ef2 : Cond.selects "java/lang/IllegalArgumentException" ⟨"java/lang/Throwable", "fillInStackTrace", "()Ljava/lang/Throwable;"⟩ ⟨"java/lang/Throwable", "fillInStackTrace", "()Ljava/lang/Throwable;"⟩ ∈ GT := gm2 (i := 234) (by decide +kernel) rfl
theorem g_se_java_lang_IndexOutOfBoundsException_java_lang_Throwable_fillInStackTrace_4ef2_java_lang_Throwable_fillInStackTrace_4ef2 : Cond.selects "java/lang/IndexOutOfBoundsException" ⟨"java/lang/Throwable", "fillInStackTrace", "()Ljava/lang/Throwable;"⟩ ⟨"java/lang/Throwable", "fillInStackTrace", "()Ljava/lang/Throwable;"⟩ ∈ GT := gm2 (i := 235) (by decide +kernel) rfl
theorem g_se_Jxde1cd_java_lang_Throwable_fillInStackTrace_4ef2_java_lang_Throwable_fillInStackTrace_4ef2 : Cond.selects RJxde1cd ⟨"java/lang/Throwable", "fillInStackTrace", "()Ljava/lang/Throwable;"⟩ ⟨"java/lang/Throwable", "fillInStackTrace", "()Ljava/lang/Throwable;"⟩ ∈ GT := gm2 (i := 236) (by decide +kernel) rfl
theorem g_ml_java_lang_Throwable_202 : Cond.methodLink "java/lang/Throwable" 202 ⟨"java/lang/Throwable", "fillInStackTrace", "(I)Ljava/lang/Throwable;"⟩ ∈ GT := gm2 (i := 238) (by decide +kernel) rfl
theorem g_im_java_lang_Throwable_fillInStackTrace_ecd7 : Cond.instanceMethod ⟨"java/lang/Throwable", "fillInStackTrace", "(I)Ljava/lang/Throwable;"⟩ ∈ GT := gm3 (i := 0) (by decide +kernel) rfl
theorem g_ins_java_lang_Throwable : Cond.instantiable "java/lang/Throwable" 6 ∈ GT := gm3 (i := 1) (by decide +kernel) rfl
theorem g_fl_java_lang_Throwable_198 : Cond.fieldLink "java/lang/Throwable" 198 "java/lang/Throwable" "backtrace" "Ljava/lang/Object;" ∈ GT := gm3 (i := 3) (by decide +kernel) rfl
theorem g_fl_java_lang_Throwable_31 : Cond.fieldLink "java/lang/Throwable" 31 "java/lang/Throwable" "detailMessage" "Ljava/lang/String;" ∈ GT := gm3 (i := 4) (by decide +kernel) rfl
theorem g_fl_java_lang_Throwable_7 : Cond.fieldLink "java/lang/Throwable" 7 "java/lang/Throwable" "cause" "Ljava/lang/Throwable;" ∈ GT := gm3 (i := 5) (by decide +kernel) rfl
theorem g_fl_java_lang_Throwable_17 : Cond.fieldLink "java/lang/Throwable" 17 "java/lang/Throwable" "stackTrace" "[Ljava/lang/StackTraceElement;" ∈ GT := gm3 (i := 6) (by decide +kernel) rfl
theorem g_fl_java_lang_Throwable_24 : Cond.fieldLink "java/lang/Throwable" 24 "java/lang/Throwable" "suppressedExceptions" "Ljava/util/List;" ∈ GT := gm3 (i := 7) (by decide +kernel) rfl
theorem g_sup_Jx00060_java_lang_IndexOutOfBoundsException : Cond.superclass RJx00060 "java/lang/IndexOutOfBoundsException" ∈ GT := gm3 (i := 20) (by decide +kernel) rfl
theorem g_se_Jx00060_java_lang_Throwable_fillInStackTrace_ecd7_java_lang_Throwable_fillInStackTrace_ecd7 : Cond.selects RJx00060 ⟨"java/lang/Throwable", "fillInStackTrace", "(I)Ljava/lang/Throwable;"⟩ ⟨"java/lang/Throwable", "fillInStackTrace", "(I)Ljava/lang/Throwable;"⟩ ∈ GT := gm3 (i := 30) (by decide +kernel) rfl
theorem g_sup_java_lang_Throwable_java_lang_Object : Cond.superclass "java/lang/Throwable" "java/lang/Object" ∈ GT := gm3 (i := 37) (by decide +kernel) rfl
theorem g_im_java_lang_Throwable__init__47f5 : Cond.instanceMethod ⟨"java/lang/Throwable", "<init>", "()V"⟩ ∈ GT := gm3 (i := 38) (by decide +kernel) rfl
theorem g_cd_java_lang_Throwable__init__47f5 : Cond.code ⟨"java/lang/Throwable", "<init>", "()V"⟩ prog_19_method_1_code 1 (none : Option Jvm.ClassFile.FieldType) ∈ GT := gm3 (i := 39) (by decide +kernel) rfl
theorem g_ins_J0 : Cond.instantiable RJ0 4 ∈ GT := gm3 (i := 40) (by decide +kernel) rfl
theorem g_ac_byte : Cond.arrayClass .byte ∈ GT := gm3 (i := 41) (by decide +kernel) rfl
theorem g_ml_L_7 : Cond.methodLink RL 7 yX8_hold ∈ GT := gm3 (i := 46) (by decide +kernel) rfl
theorem g_im_yX8_hold : Cond.instanceMethod yX8_hold ∈ GT := gm3 (i := 47) (by decide +kernel) rfl
theorem g_se_X8_yX8_hold_yX8_hold : Cond.selects RX8 yX8_hold yX8_hold ∈ GT := gm3 (i := 48) (by decide +kernel) rfl
theorem g_cd_yX8_hold : Cond.code yX8_hold cX8_hold 6 (some .long) ∈ GT := gm3 (i := 49) (by decide +kernel) rfl
theorem g_cl_X8_104 : Cond.classLink RX8 104 RJx00060 ∈ GT := gm3 (i := 50) (by decide +kernel) rfl
theorem g_ml_X8_108 : Cond.methodLink RX8 108 yJx00060_init_a7421 ∈ GT := gm3 (i := 52) (by decide +kernel) rfl
theorem g_ml_X8_114 : Cond.methodLink RX8 114 yX2_take ∈ GT := gm3 (i := 53) (by decide +kernel) rfl
theorem g_ml_L_101 : Cond.methodLink RL 101 yL_held ∈ GT := gm3 (i := 54) (by decide +kernel) rfl
theorem g_st_yL_held : Cond.static yL_held ∈ GT := gm3 (i := 55) (by decide +kernel) rfl
theorem g_cw_yL_held : Cond.codeWith yL_held cL_held 4 (some .int) [(0, 8, 11, 13)] ∈ GT := gm3 (i := 56) (by decide +kernel) rfl
theorem g_ml_L_15 : Cond.methodLink RL 15 yX8_held ∈ GT := gm3 (i := 57) (by decide +kernel) rfl
theorem g_im_yX8_held : Cond.instanceMethod yX8_held ∈ GT := gm3 (i := 58) (by decide +kernel) rfl
theorem g_se_X8_yX8_held_yX8_held : Cond.selects RX8 yX8_held yX8_held ∈ GT := gm3 (i := 59) (by decide +kernel) rfl
theorem g_cd_yX8_held : Cond.code yX8_held cX8_held 2 (some .long) ∈ GT := gm3 (i := 60) (by decide +kernel) rfl
theorem g_ml_L_105 : Cond.methodLink RL 105 yL_index ∈ GT := gm3 (i := 61) (by decide +kernel) rfl
theorem g_st_yL_index : Cond.static yL_index ∈ GT := gm3 (i := 62) (by decide +kernel) rfl
theorem g_cw_yL_index : Cond.codeWith yL_index cL_index 4 (some .int) [(0, 8, 11, 22)] ∈ GT := gm3 (i := 63) (by decide +kernel) rfl
theorem g_cl_L_22 : Cond.classLink RL 22 "java/lang/IndexOutOfBoundsException" ∈ GT := gm3 (i := 64) (by decide +kernel) rfl
theorem g_ml_L_19 : Cond.methodLink RL 19 yX8_index ∈ GT := gm3 (i := 65) (by decide +kernel) rfl
theorem g_im_yX8_index : Cond.instanceMethod yX8_index ∈ GT := gm3 (i := 66) (by decide +kernel) rfl
theorem g_se_X8_yX8_index_yX8_index : Cond.selects RX8 yX8_index yX8_index ∈ GT := gm3 (i := 67) (by decide +kernel) rfl
theorem g_cd_yX8_index : Cond.code yX8_index cX8_index 5 (some .long) ∈ GT := gm3 (i := 68) (by decide +kernel) rfl
theorem g_cl_X8_124 : Cond.classLink RX8 124 "java/lang/IndexOutOfBoundsException" ∈ GT := gm3 (i := 69) (by decide +kernel) rfl
theorem g_ins_java_lang_IndexOutOfBoundsException : Cond.instantiable "java/lang/IndexOutOfBoundsException" 6 ∈ GT := gm3 (i := 70) (by decide +kernel) rfl
theorem g_se_java_lang_IndexOutOfBoundsException_java_lang_Throwable_fillInStackTrace_ecd7_java_lang_Throwable_fillInStackTrace_ecd7 : Cond.selects "java/lang/IndexOutOfBoundsException" ⟨"java/lang/Throwable", "fillInStackTrace", "(I)Ljava/lang/Throwable;"⟩ ⟨"java/lang/Throwable", "fillInStackTrace", "(I)Ljava/lang/Throwable;"⟩ ∈ GT := gm3 (i := 72) (by decide +kernel) rfl
theorem g_ml_X8_128 : Cond.methodLink RX8 128 ⟨"java/lang/IndexOutOfBoundsException", "<init>", "(Ljava/lang/String;)V"⟩ ∈ GT := gm3 (i := 79) (by decide +kernel) rfl
theorem g_sup_java_lang_IndexOutOfBoundsException_java_lang_RuntimeException : Cond.superclass "java/lang/IndexOutOfBoundsException" "java/lang/RuntimeException" ∈ GT := gm3 (i := 81) (by decide +kernel) rfl
theorem g_ml_L_112 : Cond.methodLink RL 112 yL_element ∈ GT := gm3 (i := 82) (by decide +kernel) rfl
theorem g_st_yL_element : Cond.static yL_element ∈ GT := gm3 (i := 83) (by decide +kernel) rfl
theorem g_cw_yL_element : Cond.codeWith yL_element cL_element 6 (some .int) [(0, 11, 14, 22)] ∈ GT := gm3 (i := 84) (by decide +kernel) rfl
theorem g_ml_L_24 : Cond.methodLink RL 24 yX8_element ∈ GT := gm3 (i := 85) (by decide +kernel) rfl
theorem g_im_yX8_element : Cond.instanceMethod yX8_element ∈ GT := gm3 (i := 86) (by decide +kernel) rfl
theorem g_se_X8_yX8_element_yX8_element : Cond.selects RX8 yX8_element yX8_element ∈ GT := gm3 (i := 87) (by decide +kernel) rfl
theorem g_cd_yX8_element : Cond.code yX8_element cX8_element 5 (some .int) ∈ GT := gm3 (i := 88) (by decide +kernel) rfl
theorem g_ml_X8_129 : Cond.methodLink RX8 129 yX5_reaches ∈ GT := gm3 (i := 89) (by decide +kernel) rfl
theorem g_im_yX5_reaches : Cond.instanceMethod yX5_reaches ∈ GT := gm3 (i := 90) (by decide +kernel) rfl
theorem g_sm_X5_X5_reaches : Cond.sameMethod RX5 RX5 "reaches" "(J)Z" ∈ GT := gm3 (i := 91) (by decide +kernel) rfl
theorem g_se_X0_yX5_reaches_yX5_reaches : Cond.selects RX0 yX5_reaches yX5_reaches ∈ GT := gm3 (i := 92) (by decide +kernel) rfl
theorem g_se_X1_yX5_reaches_yX5_reaches : Cond.selects RX1 yX5_reaches yX5_reaches ∈ GT := gm3 (i := 93) (by decide +kernel) rfl
theorem g_se_X4_yX5_reaches_yX5_reaches : Cond.selects RX4 yX5_reaches yX5_reaches ∈ GT := gm3 (i := 94) (by decide +kernel) rfl
theorem g_se_X6_yX5_reaches_yX5_reaches : Cond.selects RX6 yX5_reaches yX5_reaches ∈ GT := gm3 (i := 95) (by decide +kernel) rfl
theorem g_cd_yX5_reaches : Cond.code yX5_reaches cX5_reaches 3 (some .boolean) ∈ GT := gm3 (i := 96) (by decide +kernel) rfl
theorem g_kl_X5_25 : Cond.constantLong RX5 25 (-1) ∈ GT := gm3 (i := 97) (by decide +kernel) rfl
theorem g_ml_L_115 : Cond.methodLink RL 115 yL_go ∈ GT := gm3 (i := 99) (by decide +kernel) rfl
theorem g_st_yL_go : Cond.static yL_go ∈ GT := gm3 (i := 100) (by decide +kernel) rfl
theorem g_cw_yL_go : Cond.codeWith yL_go cL_go 6 (some .int) [(0, 10, 13, 22)] ∈ GT := gm3 (i := 101) (by decide +kernel) rfl
theorem g_ml_L_28 : Cond.methodLink RL 28 yX8_go ∈ GT := gm3 (i := 102) (by decide +kernel) rfl
theorem g_im_yX8_go : Cond.instanceMethod yX8_go ∈ GT := gm3 (i := 103) (by decide +kernel) rfl
theorem g_se_X8_yX8_go_yX8_go : Cond.selects RX8 yX8_go yX8_go ∈ GT := gm3 (i := 104) (by decide +kernel) rfl
theorem g_cd_yX8_go : Cond.code yX8_go cX8_go 7 (some .long) ∈ GT := gm3 (i := 105) (by decide +kernel) rfl
theorem g_ml_L_126 : Cond.methodLink RL 126 yL_array ∈ GT := gm3 (i := 107) (by decide +kernel) rfl
theorem g_st_yL_array : Cond.static yL_array ∈ GT := gm3 (i := 108) (by decide +kernel) rfl
theorem g_cw_yL_array : Cond.codeWith yL_array cL_array 4 (some .int) [(0, 9, 12, 35), (0, 9, 15, 37)] ∈ GT := gm3 (i := 109) (by decide +kernel) rfl
theorem g_cl_L_35 : Cond.classLink RL 35 RJxde1cd ∈ GT := gm3 (i := 110) (by decide +kernel) rfl
theorem g_ins_Jxde1cd : Cond.instantiable RJxde1cd 6 ∈ GT := gm3 (i := 111) (by decide +kernel) rfl
theorem g_im_yJxde1cd_init_a7421 : Cond.instanceMethod yJxde1cd_init_a7421 ∈ GT := gm3 (i := 112) (by decide +kernel) rfl
theorem g_cd_yJxde1cd_init_a7421 : Cond.code yJxde1cd_init_a7421 cJxde1cd_init_a7421 2 (none : Option Jvm.ClassFile.FieldType) ∈ GT := gm3 (i := 113) (by decide +kernel) rfl
theorem g_ml_Jxde1cd_7 : Cond.methodLink RJxde1cd 7 ⟨"java/lang/RuntimeException", "<init>", "(Ljava/lang/String;)V"⟩ ∈ GT := gm3 (i := 114) (by decide +kernel) rfl
theorem g_sup_Jxde1cd_java_lang_RuntimeException : Cond.superclass RJxde1cd "java/lang/RuntimeException" ∈ GT := gm3 (i := 121) (by decide +kernel) rfl
theorem g_se_Jxde1cd_java_lang_Throwable_fillInStackTrace_ecd7_java_lang_Throwable_fillInStackTrace_ecd7 : Cond.selects RJxde1cd ⟨"java/lang/Throwable", "fillInStackTrace", "(I)Ljava/lang/Throwable;"⟩ ⟨"java/lang/Throwable", "fillInStackTrace", "(I)Ljava/lang/Throwable;"⟩ ∈ GT := gm3 (i := 123) (by decide +kernel) rfl
theorem g_cl_L_37 : Cond.classLink RL 37 "java/lang/IllegalArgumentException" ∈ GT := gm3 (i := 124) (by decide +kernel) rfl
theorem g_ml_L_31 : Cond.methodLink RL 31 yX8_array ∈ GT := gm3 (i := 125) (by decide +kernel) rfl
theorem g_im_yX8_array : Cond.instanceMethod yX8_array ∈ GT := gm3 (i := 126) (by decide +kernel) rfl
theorem g_se_X8_yX8_array_yX8_array : Cond.selects RX8 yX8_array yX8_array ∈ GT := gm3 (i := 127) (by decide +kernel) rfl
theorem g_cd_yX8_array : Cond.code yX8_array cX8_array 3 (some .int) ∈ GT := gm3 (i := 128) (by decide +kernel) rfl
theorem g_cl_X8_161 : Cond.classLink RX8 161 RJxde1cd ∈ GT := gm3 (i := 129) (by decide +kernel) rfl
theorem g_ml_X8_165 : Cond.methodLink RX8 165 yJxde1cd_init_a7421 ∈ GT := gm3 (i := 131) (by decide +kernel) rfl
theorem g_kl_X8_166 : Cond.constantLong RX8 166 (400) ∈ GT := gm3 (i := 132) (by decide +kernel) rfl
theorem g_cl_X8_168 : Cond.classLink RX8 168 "java/lang/IllegalArgumentException" ∈ GT := gm3 (i := 133) (by decide +kernel) rfl
theorem g_ins_java_lang_IllegalArgumentException : Cond.instantiable "java/lang/IllegalArgumentException" 6 ∈ GT := gm3 (i := 134) (by decide +kernel) rfl
theorem g_se_java_lang_IllegalArgumentException_java_lang_Throwable_fillInStackTrace_ecd7_java_lang_Throwable_fillInStackTrace_ecd7 : Cond.selects "java/lang/IllegalArgumentException" ⟨"java/lang/Throwable", "fillInStackTrace", "(I)Ljava/lang/Throwable;"⟩ ⟨"java/lang/Throwable", "fillInStackTrace", "(I)Ljava/lang/Throwable;"⟩ ∈ GT := gm3 (i := 136) (by decide +kernel) rfl
theorem g_ml_X8_172 : Cond.methodLink RX8 172 ⟨"java/lang/IllegalArgumentException", "<init>", "(Ljava/lang/String;)V"⟩ ∈ GT := gm3 (i := 143) (by decide +kernel) rfl
theorem g_im_java_lang_IllegalArgumentException__init__db43 : Cond.instanceMethod ⟨"java/lang/IllegalArgumentException", "<init>", "(Ljava/lang/String;)V"⟩ ∈ GT := gm3 (i := 144) (by decide +kernel) rfl
theorem g_cd_java_lang_IllegalArgumentException__init__db43 : Cond.code ⟨"java/lang/IllegalArgumentException", "<init>", "(Ljava/lang/String;)V"⟩ prog_14_method_2_code 2 (none : Option Jvm.ClassFile.FieldType) ∈ GT := gm3 (i := 145) (by decide +kernel) rfl
theorem g_ml_java_lang_IllegalArgumentException_7 : Cond.methodLink "java/lang/IllegalArgumentException" 7 ⟨"java/lang/RuntimeException", "<init>", "(Ljava/lang/String;)V"⟩ ∈ GT := gm3 (i := 146) (by decide +kernel) rfl
theorem g_sup_java_lang_IllegalArgumentException_java_lang_RuntimeException : Cond.superclass "java/lang/IllegalArgumentException" "java/lang/RuntimeException" ∈ GT := gm3 (i := 148) (by decide +kernel) rfl
theorem g_ml_X8_173 : Cond.methodLink RX8 173 yJ7_fill_53178 ∈ GT := gm3 (i := 149) (by decide +kernel) rfl
theorem g_st_yJ7_fill_53178 : Cond.static yJ7_fill_53178 ∈ GT := gm3 (i := 150) (by decide +kernel) rfl
theorem g_cd_yJ7_fill_53178 : Cond.code yJ7_fill_53178 cJ7_fill_53178 4 (none : Option Jvm.ClassFile.FieldType) ∈ GT := gm3 (i := 151) (by decide +kernel) rfl
theorem g_ml_L_129 : Cond.methodLink RL 129 yL_put ∈ GT := gm3 (i := 152) (by decide +kernel) rfl
theorem g_st_yL_put : Cond.static yL_put ∈ GT := gm3 (i := 153) (by decide +kernel) rfl
theorem g_cw_yL_put : Cond.codeWith yL_put cL_put 5 (some .int) [(0, 10, 13, 22)] ∈ GT := gm3 (i := 154) (by decide +kernel) rfl
theorem g_ml_L_39 : Cond.methodLink RL 39 yX8_put ∈ GT := gm3 (i := 155) (by decide +kernel) rfl
theorem g_im_yX8_put : Cond.instanceMethod yX8_put ∈ GT := gm3 (i := 156) (by decide +kernel) rfl
theorem g_se_X8_yX8_put_yX8_put : Cond.selects RX8 yX8_put yX8_put ∈ GT := gm3 (i := 157) (by decide +kernel) rfl
theorem g_cd_yX8_put : Cond.code yX8_put cX8_put 6 (some .int) ∈ GT := gm3 (i := 158) (by decide +kernel) rfl
theorem g_ml_X8_181 : Cond.methodLink RX8 181 yX8_cellOfHand ∈ GT := gm3 (i := 159) (by decide +kernel) rfl
theorem g_im_yX8_cellOfHand : Cond.instanceMethod yX8_cellOfHand ∈ GT := gm3 (i := 161) (by decide +kernel) rfl
theorem g_cd_yX8_cellOfHand : Cond.code yX8_cellOfHand cX8_cellOfHand 4 (some .int) ∈ GT := gm3 (i := 162) (by decide +kernel) rfl
theorem g_ml_L_133 : Cond.methodLink RL 133 yL_at ∈ GT := gm3 (i := 164) (by decide +kernel) rfl
theorem g_st_yL_at : Cond.static yL_at ∈ GT := gm3 (i := 165) (by decide +kernel) rfl
theorem g_cw_yL_at : Cond.codeWith yL_at cL_at 4 (some .int) [(0, 9, 12, 22)] ∈ GT := gm3 (i := 166) (by decide +kernel) rfl
theorem g_ml_L_43 : Cond.methodLink RL 43 yX8_at ∈ GT := gm3 (i := 167) (by decide +kernel) rfl
theorem g_im_yX8_at : Cond.instanceMethod yX8_at ∈ GT := gm3 (i := 168) (by decide +kernel) rfl
theorem g_se_X8_yX8_at_yX8_at : Cond.selects RX8 yX8_at yX8_at ∈ GT := gm3 (i := 169) (by decide +kernel) rfl
theorem g_cd_yX8_at : Cond.code yX8_at cX8_at 4 (some .int) ∈ GT := gm3 (i := 170) (by decide +kernel) rfl
theorem g_cl_L_47 : Cond.classLink RL 47 RX9 ∈ GT := gm3 (i := 171) (by decide +kernel) rfl
theorem g_ins_X9 : Cond.instantiable RX9 22 ∈ GT := gm3 (i := 172) (by decide +kernel) rfl
theorem g_ml_L_49 : Cond.methodLink RL 49 yX9_init ∈ GT := gm3 (i := 173) (by decide +kernel) rfl
theorem g_im_yX9_init : Cond.instanceMethod yX9_init ∈ GT := gm3 (i := 174) (by decide +kernel) rfl
theorem g_cd_yX9_init : Cond.code yX9_init cX9_init 1 (none : Option Jvm.ClassFile.FieldType) ∈ GT := gm3 (i := 175) (by decide +kernel) rfl
theorem g_ml_X9_1 : Cond.methodLink RX9 1 ⟨"java/lang/Object", "<init>", "()V"⟩ ∈ GT := gm3 (i := 176) (by decide +kernel) rfl
theorem g_fl_X9_54 : Cond.fieldLink RX9 54 "IndexRangesModel" "ranges" "I" ∈ GT := gm3 (i := 177) (by decide +kernel) rfl
theorem g_fl_X9_7 : Cond.fieldLink RX9 7 "IndexRangesModel" "kind" "[I" ∈ GT := gm3 (i := 178) (by decide +kernel) rfl
theorem g_fl_X9_13 : Cond.fieldLink RX9 13 "IndexRangesModel" "parts" "[I" ∈ GT := gm3 (i := 179) (by decide +kernel) rfl
theorem g_fl_X9_16 : Cond.fieldLink RX9 16 "IndexRangesModel" "width" "[I" ∈ GT := gm3 (i := 180) (by decide +kernel) rfl
theorem g_fl_X9_19 : Cond.fieldLink RX9 19 "IndexRangesModel" "sizes" "[J" ∈ GT := gm3 (i := 181) (by decide +kernel) rfl
theorem g_fl_X9_23 : Cond.fieldLink RX9 23 "IndexRangesModel" "from" "[J" ∈ GT := gm3 (i := 182) (by decide +kernel) rfl
theorem g_fl_X9_26 : Cond.fieldLink RX9 26 "IndexRangesModel" "to" "[J" ∈ GT := gm3 (i := 183) (by decide +kernel) rfl
theorem g_fl_X9_29 : Cond.fieldLink RX9 29 "IndexRangesModel" "step" "[I" ∈ GT := gm3 (i := 184) (by decide +kernel) rfl
theorem g_fl_X9_32 : Cond.fieldLink RX9 32 "IndexRangesModel" "single" "[I" ∈ GT := gm3 (i := 185) (by decide +kernel) rfl
theorem g_fl_X9_35 : Cond.fieldLink RX9 35 "IndexRangesModel" "turned" "[Z" ∈ GT := gm3 (i := 186) (by decide +kernel) rfl
theorem g_fl_X9_39 : Cond.fieldLink RX9 39 "IndexRangesModel" "deep" "[I" ∈ GT := gm3 (i := 187) (by decide +kernel) rfl
theorem g_fl_X9_42 : Cond.fieldLink RX9 42 "IndexRangesModel" "hand" "[J" ∈ GT := gm3 (i := 188) (by decide +kernel) rfl
theorem g_fl_X9_45 : Cond.fieldLink RX9 45 "IndexRangesModel" "look" "[J" ∈ GT := gm3 (i := 189) (by decide +kernel) rfl
theorem g_fl_X9_124 : Cond.fieldLink RX9 124 "IndexRangesModel" "hasMissed" "Z" ∈ GT := gm3 (i := 190) (by decide +kernel) rfl
theorem g_fl_X9_128 : Cond.fieldLink RX9 128 "IndexRangesModel" "missSingle" "I" ∈ GT := gm3 (i := 191) (by decide +kernel) rfl
theorem g_fl_X9_131 : Cond.fieldLink RX9 131 "IndexRangesModel" "missNumber" "I" ∈ GT := gm3 (i := 192) (by decide +kernel) rfl
theorem g_fl_X9_134 : Cond.fieldLink RX9 134 "IndexRangesModel" "missDeep" "I" ∈ GT := gm3 (i := 193) (by decide +kernel) rfl
theorem g_fl_X9_137 : Cond.fieldLink RX9 137 "IndexRangesModel" "misses" "I" ∈ GT := gm3 (i := 194) (by decide +kernel) rfl
theorem g_fl_X9_62 : Cond.fieldLink RX9 62 "IndexRangesModel" "arrays" "I" ∈ GT := gm3 (i := 195) (by decide +kernel) rfl
theorem g_fl_X9_48 : Cond.fieldLink RX9 48 "IndexRangesModel" "arrayRange" "[I" ∈ GT := gm3 (i := 196) (by decide +kernel) rfl
theorem g_fl_X9_51 : Cond.fieldLink RX9 51 "IndexRangesModel" "cells" "[I" ∈ GT := gm3 (i := 197) (by decide +kernel) rfl
theorem g_fl_X9_65 : Cond.fieldLink RX9 65 "IndexRangesModel" "thrownNow" "I" ∈ GT := gm3 (i := 198) (by decide +kernel) rfl
theorem g_sup_X9_java_lang_Object : Cond.superclass RX9 "java/lang/Object" ∈ GT := gm4 (i := 3) (by decide +kernel) rfl
theorem g_ac_boolean : Cond.arrayClass .boolean ∈ GT := gm4 (i := 4) (by decide +kernel) rfl
theorem g_ml_L_97 : Cond.methodLink RL 97 yX9_thrown ∈ GT := gm4 (i := 5) (by decide +kernel) rfl
theorem g_im_yX9_thrown : Cond.instanceMethod yX9_thrown ∈ GT := gm4 (i := 6) (by decide +kernel) rfl
theorem g_se_X9_yX9_thrown_yX9_thrown : Cond.selects RX9 yX9_thrown yX9_thrown ∈ GT := gm4 (i := 7) (by decide +kernel) rfl
theorem g_cd_yX9_thrown : Cond.code yX9_thrown cX9_thrown 1 (some .int) ∈ GT := gm4 (i := 8) (by decide +kernel) rfl
theorem g_ml_L_56 : Cond.methodLink RL 56 yX9_wholes ∈ GT := gm4 (i := 9) (by decide +kernel) rfl
theorem g_im_yX9_wholes : Cond.instanceMethod yX9_wholes ∈ GT := gm4 (i := 10) (by decide +kernel) rfl
theorem g_se_X9_yX9_wholes_yX9_wholes : Cond.selects RX9 yX9_wholes yX9_wholes ∈ GT := gm4 (i := 11) (by decide +kernel) rfl
theorem g_cd_yX9_wholes : Cond.code yX9_wholes cX9_wholes 5 (some .int) ∈ GT := gm4 (i := 12) (by decide +kernel) rfl
theorem g_ml_X9_82 : Cond.methodLink RX9 82 yX9_addSingle ∈ GT := gm4 (i := 13) (by decide +kernel) rfl
theorem g_im_yX9_addSingle : Cond.instanceMethod yX9_addSingle ∈ GT := gm4 (i := 15) (by decide +kernel) rfl
theorem g_cd_yX9_addSingle : Cond.code yX9_addSingle cX9_addSingle 8 (some .int) ∈ GT := gm4 (i := 16) (by decide +kernel) rfl
theorem g_ml_X9_78 : Cond.methodLink RX9 78 yX9_singleSize ∈ GT := gm4 (i := 17) (by decide +kernel) rfl
theorem g_im_yX9_singleSize : Cond.instanceMethod yX9_singleSize ∈ GT := gm4 (i := 19) (by decide +kernel) rfl
theorem g_cd_yX9_singleSize : Cond.code yX9_singleSize cX9_singleSize 9 (some .long) ∈ GT := gm4 (i := 20) (by decide +kernel) rfl
theorem g_ml_X9_72 : Cond.methodLink RX9 72 yX9_stepsUp ∈ GT := gm4 (i := 21) (by decide +kernel) rfl
theorem g_st_yX9_stepsUp : Cond.static yX9_stepsUp ∈ GT := gm4 (i := 22) (by decide +kernel) rfl
theorem g_cd_yX9_stepsUp : Cond.code yX9_stepsUp cX9_stepsUp 14 (some .long) ∈ GT := gm4 (i := 23) (by decide +kernel) rfl
theorem g_kl_X9_68 : Cond.constantLong RX9 68 (-1) ∈ GT := gm4 (i := 24) (by decide +kernel) rfl
theorem g_kl_X9_70 : Cond.constantLong RX9 70 (2) ∈ GT := gm4 (i := 25) (by decide +kernel) rfl
theorem g_kl_X9_76 : Cond.constantLong RX9 76 (9223372036854775807) ∈ GT := gm4 (i := 26) (by decide +kernel) rfl
theorem g_ml_L_60 : Cond.methodLink RL 60 yX9_signs ∈ GT := gm4 (i := 27) (by decide +kernel) rfl
theorem g_im_yX9_signs : Cond.instanceMethod yX9_signs ∈ GT := gm4 (i := 28) (by decide +kernel) rfl
theorem g_se_X9_yX9_signs_yX9_signs : Cond.selects RX9 yX9_signs yX9_signs ∈ GT := gm4 (i := 29) (by decide +kernel) rfl
theorem g_cd_yX9_signs : Cond.code yX9_signs cX9_signs 3 (some .int) ∈ GT := gm4 (i := 30) (by decide +kernel) rfl
theorem g_kl_X9_86 : Cond.constantLong RX9 86 (65535) ∈ GT := gm4 (i := 31) (by decide +kernel) rfl
theorem g_ml_X9_58 : Cond.methodLink RX9 58 yX9_in ∈ GT := gm4 (i := 32) (by decide +kernel) rfl
theorem g_st_yX9_in : Cond.static yX9_in ∈ GT := gm4 (i := 33) (by decide +kernel) rfl
theorem g_cd_yX9_in : Cond.code yX9_in cX9_in 6 (some .boolean) ∈ GT := gm4 (i := 34) (by decide +kernel) rfl
theorem g_ml_L_65 : Cond.methodLink RL 65 yX9_names ∈ GT := gm4 (i := 35) (by decide +kernel) rfl
theorem g_im_yX9_names : Cond.instanceMethod yX9_names ∈ GT := gm4 (i := 36) (by decide +kernel) rfl
theorem g_se_X9_yX9_names_yX9_names : Cond.selects RX9 yX9_names yX9_names ∈ GT := gm4 (i := 37) (by decide +kernel) rfl
theorem g_cd_yX9_names : Cond.code yX9_names cX9_names 4 (some .int) ∈ GT := gm4 (i := 38) (by decide +kernel) rfl
theorem g_kl_X9_88 : Cond.constantLong RX9 88 (20) ∈ GT := gm4 (i := 39) (by decide +kernel) rfl
theorem g_ml_L_70 : Cond.methodLink RL 70 yX9_steps ∈ GT := gm4 (i := 40) (by decide +kernel) rfl
theorem g_im_yX9_steps : Cond.instanceMethod yX9_steps ∈ GT := gm4 (i := 41) (by decide +kernel) rfl
theorem g_se_X9_yX9_steps_yX9_steps : Cond.selects RX9 yX9_steps yX9_steps ∈ GT := gm4 (i := 42) (by decide +kernel) rfl
theorem g_cd_yX9_steps : Cond.code yX9_steps cX9_steps 6 (some .int) ∈ GT := gm4 (i := 43) (by decide +kernel) rfl
theorem g_kl_X9_90 : Cond.constantLong RX9 90 (-1000000) ∈ GT := gm4 (i := 44) (by decide +kernel) rfl
theorem g_kl_X9_92 : Cond.constantLong RX9 92 (1000000) ∈ GT := gm4 (i := 45) (by decide +kernel) rfl
theorem g_ml_L_74 : Cond.methodLink RL 74 yX9_back ∈ GT := gm4 (i := 46) (by decide +kernel) rfl
theorem g_im_yX9_back : Cond.instanceMethod yX9_back ∈ GT := gm4 (i := 47) (by decide +kernel) rfl
theorem g_se_X9_yX9_back_yX9_back : Cond.selects RX9 yX9_back yX9_back ∈ GT := gm4 (i := 48) (by decide +kernel) rfl
theorem g_cd_yX9_back : Cond.code yX9_back cX9_back 3 (some .int) ∈ GT := gm4 (i := 49) (by decide +kernel) rfl
theorem g_ml_X9_101 : Cond.methodLink RX9 101 yX9_noRange ∈ GT := gm4 (i := 50) (by decide +kernel) rfl
theorem g_im_yX9_noRange : Cond.instanceMethod yX9_noRange ∈ GT := gm4 (i := 52) (by decide +kernel) rfl
theorem g_cd_yX9_noRange : Cond.code yX9_noRange cX9_noRange 2 (some .boolean) ∈ GT := gm4 (i := 53) (by decide +kernel) rfl
theorem g_ml_X9_105 : Cond.methodLink RX9 105 yX9_begin ∈ GT := gm4 (i := 54) (by decide +kernel) rfl
theorem g_im_yX9_begin : Cond.instanceMethod yX9_begin ∈ GT := gm4 (i := 56) (by decide +kernel) rfl
theorem g_cd_yX9_begin : Cond.code yX9_begin cX9_begin 5 (some .int) ∈ GT := gm4 (i := 57) (by decide +kernel) rfl
theorem g_ml_X9_109 : Cond.methodLink RX9 109 yX9_take ∈ GT := gm4 (i := 58) (by decide +kernel) rfl
theorem g_im_yX9_take : Cond.instanceMethod yX9_take ∈ GT := gm4 (i := 60) (by decide +kernel) rfl
theorem g_cd_yX9_take : Cond.code yX9_take cX9_take 6 (none : Option Jvm.ClassFile.FieldType) ∈ GT := gm4 (i := 61) (by decide +kernel) rfl
theorem g_ml_X9_113 : Cond.methodLink RX9 113 yX9_sizeOf ∈ GT := gm4 (i := 62) (by decide +kernel) rfl
theorem g_im_yX9_sizeOf : Cond.instanceMethod yX9_sizeOf ∈ GT := gm4 (i := 64) (by decide +kernel) rfl
theorem g_cd_yX9_sizeOf : Cond.code yX9_sizeOf cX9_sizeOf 8 (some .long) ∈ GT := gm4 (i := 65) (by decide +kernel) rfl
theorem g_ml_X9_97 : Cond.methodLink RX9 97 yX9_times ∈ GT := gm4 (i := 66) (by decide +kernel) rfl
theorem g_st_yX9_times : Cond.static yX9_times ∈ GT := gm4 (i := 67) (by decide +kernel) rfl
theorem g_cd_yX9_times : Cond.code yX9_times cX9_times 4 (some .long) ∈ GT := gm4 (i := 68) (by decide +kernel) rfl
theorem g_ml_L_78 : Cond.methodLink RL 78 yX9_pair ∈ GT := gm4 (i := 69) (by decide +kernel) rfl
theorem g_im_yX9_pair : Cond.instanceMethod yX9_pair ∈ GT := gm4 (i := 70) (by decide +kernel) rfl
theorem g_se_X9_yX9_pair_yX9_pair : Cond.selects RX9 yX9_pair yX9_pair ∈ GT := gm4 (i := 71) (by decide +kernel) rfl
theorem g_cd_yX9_pair : Cond.code yX9_pair cX9_pair 4 (some .int) ∈ GT := gm4 (i := 72) (by decide +kernel) rfl
theorem g_ml_L_82 : Cond.methodLink RL 82 yX9_triple ∈ GT := gm4 (i := 73) (by decide +kernel) rfl
theorem g_im_yX9_triple : Cond.instanceMethod yX9_triple ∈ GT := gm4 (i := 74) (by decide +kernel) rfl
theorem g_se_X9_yX9_triple_yX9_triple : Cond.selects RX9 yX9_triple yX9_triple ∈ GT := gm4 (i := 75) (by decide +kernel) rfl
theorem g_cd_yX9_triple : Cond.code yX9_triple cX9_triple 5 (some .int) ∈ GT := gm4 (i := 76) (by decide +kernel) rfl
theorem g_ml_L_86 : Cond.methodLink RL 86 yX9_told ∈ GT := gm4 (i := 77) (by decide +kernel) rfl
theorem g_im_yX9_told : Cond.instanceMethod yX9_told ∈ GT := gm4 (i := 78) (by decide +kernel) rfl
theorem g_se_X9_yX9_told_yX9_told : Cond.selects RX9 yX9_told yX9_told ∈ GT := gm4 (i := 79) (by decide +kernel) rfl
theorem g_cd_yX9_told : Cond.code yX9_told cX9_told 3 (some .int) ∈ GT := gm4 (i := 80) (by decide +kernel) rfl
theorem g_ml_L_90 : Cond.methodLink RL 90 yX9_size ∈ GT := gm4 (i := 81) (by decide +kernel) rfl
theorem g_im_yX9_size : Cond.instanceMethod yX9_size ∈ GT := gm4 (i := 82) (by decide +kernel) rfl
theorem g_se_X9_yX9_size_yX9_size : Cond.selects RX9 yX9_size yX9_size ∈ GT := gm4 (i := 83) (by decide +kernel) rfl
theorem g_cd_yX9_size : Cond.code yX9_size cX9_size 2 (some .long) ∈ GT := gm4 (i := 84) (by decide +kernel) rfl
theorem g_kl_X9_116 : Cond.constantLong RX9 116 (-1000000101) ∈ GT := gm4 (i := 85) (by decide +kernel) rfl
theorem g_ml_L_96 : Cond.methodLink RL 96 yX9_hold ∈ GT := gm4 (i := 86) (by decide +kernel) rfl
theorem g_im_yX9_hold : Cond.instanceMethod yX9_hold ∈ GT := gm4 (i := 87) (by decide +kernel) rfl
theorem g_se_X9_yX9_hold_yX9_hold : Cond.selects RX9 yX9_hold yX9_hold ∈ GT := gm4 (i := 88) (by decide +kernel) rfl
theorem g_cd_yX9_hold : Cond.code yX9_hold cX9_hold 6 (some .long) ∈ GT := gm4 (i := 89) (by decide +kernel) rfl
theorem g_kl_X9_118 : Cond.constantLong RX9 118 (7) ∈ GT := gm4 (i := 90) (by decide +kernel) rfl
theorem g_ml_L_104 : Cond.methodLink RL 104 yX9_held ∈ GT := gm4 (i := 91) (by decide +kernel) rfl
theorem g_im_yX9_held : Cond.instanceMethod yX9_held ∈ GT := gm4 (i := 92) (by decide +kernel) rfl
theorem g_se_X9_yX9_held_yX9_held : Cond.selects RX9 yX9_held yX9_held ∈ GT := gm4 (i := 93) (by decide +kernel) rfl
theorem g_cd_yX9_held : Cond.code yX9_held cX9_held 2 (some .long) ∈ GT := gm4 (i := 94) (by decide +kernel) rfl
theorem g_ml_L_107 : Cond.methodLink RL 107 yX9_index ∈ GT := gm4 (i := 95) (by decide +kernel) rfl
theorem g_im_yX9_index : Cond.instanceMethod yX9_index ∈ GT := gm4 (i := 96) (by decide +kernel) rfl
theorem g_se_X9_yX9_index_yX9_index : Cond.selects RX9 yX9_index yX9_index ∈ GT := gm4 (i := 97) (by decide +kernel) rfl
theorem g_cd_yX9_index : Cond.code yX9_index cX9_index 2 (some .long) ∈ GT := gm4 (i := 98) (by decide +kernel) rfl
theorem g_ml_X9_147 : Cond.methodLink RX9 147 yX9_isHeld ∈ GT := gm4 (i := 99) (by decide +kernel) rfl
theorem g_im_yX9_isHeld : Cond.instanceMethod yX9_isHeld ∈ GT := gm4 (i := 101) (by decide +kernel) rfl
theorem g_cd_yX9_isHeld : Cond.code yX9_isHeld cX9_isHeld 4 (some .boolean) ∈ GT := gm4 (i := 102) (by decide +kernel) rfl
theorem g_ml_X9_120 : Cond.methodLink RX9 120 yX9_hasNumber ∈ GT := gm4 (i := 103) (by decide +kernel) rfl
theorem g_im_yX9_hasNumber : Cond.instanceMethod yX9_hasNumber ∈ GT := gm4 (i := 105) (by decide +kernel) rfl
theorem g_cd_yX9_hasNumber : Cond.code yX9_hasNumber cX9_hasNumber 7 (some .boolean) ∈ GT := gm4 (i := 106) (by decide +kernel) rfl
theorem g_ml_X9_94 : Cond.methodLink RX9 94 yX9_leftOver ∈ GT := gm4 (i := 107) (by decide +kernel) rfl
theorem g_st_yX9_leftOver : Cond.static yX9_leftOver ∈ GT := gm4 (i := 108) (by decide +kernel) rfl
theorem g_cd_yX9_leftOver : Cond.code yX9_leftOver cX9_leftOver 12 (some .long) ∈ GT := gm4 (i := 109) (by decide +kernel) rfl
theorem g_ml_X9_150 : Cond.methodLink RX9 150 yX9_place ∈ GT := gm4 (i := 110) (by decide +kernel) rfl
theorem g_im_yX9_place : Cond.instanceMethod yX9_place ∈ GT := gm4 (i := 112) (by decide +kernel) rfl
theorem g_cd_yX9_place : Cond.code yX9_place cX9_place 10 (some .long) ∈ GT := gm4 (i := 113) (by decide +kernel) rfl
theorem g_ml_X9_140 : Cond.methodLink RX9 140 yX9_placeOf ∈ GT := gm4 (i := 114) (by decide +kernel) rfl
theorem g_im_yX9_placeOf : Cond.instanceMethod yX9_placeOf ∈ GT := gm4 (i := 116) (by decide +kernel) rfl
theorem g_cd_yX9_placeOf : Cond.code yX9_placeOf cX9_placeOf 5 (some .long) ∈ GT := gm4 (i := 117) (by decide +kernel) rfl
theorem g_ml_L_111 : Cond.methodLink RL 111 yX9_has ∈ GT := gm4 (i := 118) (by decide +kernel) rfl
theorem g_im_yX9_has : Cond.instanceMethod yX9_has ∈ GT := gm4 (i := 119) (by decide +kernel) rfl
theorem g_se_X9_yX9_has_yX9_has : Cond.selects RX9 yX9_has yX9_has ∈ GT := gm4 (i := 120) (by decide +kernel) rfl
theorem g_cd_yX9_has : Cond.code yX9_has cX9_has 2 (some .int) ∈ GT := gm4 (i := 121) (by decide +kernel) rfl
theorem g_ml_L_114 : Cond.methodLink RL 114 yX9_element ∈ GT := gm4 (i := 122) (by decide +kernel) rfl
theorem g_im_yX9_element : Cond.instanceMethod yX9_element ∈ GT := gm4 (i := 123) (by decide +kernel) rfl
theorem g_se_X9_yX9_element_yX9_element : Cond.selects RX9 yX9_element yX9_element ∈ GT := gm4 (i := 124) (by decide +kernel) rfl
theorem g_cd_yX9_element : Cond.code yX9_element cX9_element 4 (some .int) ∈ GT := gm4 (i := 125) (by decide +kernel) rfl
theorem g_ml_X9_153 : Cond.methodLink RX9 153 yX9_hasPlace ∈ GT := gm4 (i := 126) (by decide +kernel) rfl
theorem g_im_yX9_hasPlace : Cond.instanceMethod yX9_hasPlace ∈ GT := gm4 (i := 128) (by decide +kernel) rfl
theorem g_cd_yX9_hasPlace : Cond.code yX9_hasPlace cX9_hasPlace 4 (some .boolean) ∈ GT := gm4 (i := 129) (by decide +kernel) rfl
theorem g_ml_X9_156 : Cond.methodLink RX9 156 yX9_lay ∈ GT := gm4 (i := 130) (by decide +kernel) rfl
theorem g_im_yX9_lay : Cond.instanceMethod yX9_lay ∈ GT := gm4 (i := 132) (by decide +kernel) rfl
theorem g_cd_yX9_lay : Cond.code yX9_lay cX9_lay 11 (none : Option Jvm.ClassFile.FieldType) ∈ GT := gm4 (i := 133) (by decide +kernel) rfl
theorem g_ml_X9_144 : Cond.methodLink RX9 144 yX9_numberAt ∈ GT := gm4 (i := 134) (by decide +kernel) rfl
theorem g_im_yX9_numberAt : Cond.instanceMethod yX9_numberAt ∈ GT := gm4 (i := 136) (by decide +kernel) rfl
theorem g_cd_yX9_numberAt : Cond.code yX9_numberAt cX9_numberAt 4 (some .long) ∈ GT := gm4 (i := 137) (by decide +kernel) rfl
theorem g_ml_L_117 : Cond.methodLink RL 117 yX9_go ∈ GT := gm4 (i := 138) (by decide +kernel) rfl
theorem g_im_yX9_go : Cond.instanceMethod yX9_go ∈ GT := gm4 (i := 139) (by decide +kernel) rfl
theorem g_se_X9_yX9_go_yX9_go : Cond.selects RX9 yX9_go yX9_go ∈ GT := gm4 (i := 140) (by decide +kernel) rfl
theorem g_cd_yX9_go : Cond.code yX9_go cX9_go 6 (some .long) ∈ GT := gm4 (i := 141) (by decide +kernel) rfl
theorem g_kl_X9_160 : Cond.constantLong RX9 160 (-1000000103) ∈ GT := gm4 (i := 142) (by decide +kernel) rfl
theorem g_ml_L_121 : Cond.methodLink RL 121 yX9_miss ∈ GT := gm4 (i := 143) (by decide +kernel) rfl
theorem g_im_yX9_miss : Cond.instanceMethod yX9_miss ∈ GT := gm4 (i := 144) (by decide +kernel) rfl
theorem g_se_X9_yX9_miss_yX9_miss : Cond.selects RX9 yX9_miss yX9_miss ∈ GT := gm4 (i := 145) (by decide +kernel) rfl
theorem g_cd_yX9_miss : Cond.code yX9_miss cX9_miss 2 (some .int) ∈ GT := gm4 (i := 146) (by decide +kernel) rfl
theorem g_ml_L_125 : Cond.methodLink RL 125 yX9_within ∈ GT := gm4 (i := 147) (by decide +kernel) rfl
theorem g_im_yX9_within : Cond.instanceMethod yX9_within ∈ GT := gm4 (i := 148) (by decide +kernel) rfl
theorem g_se_X9_yX9_within_yX9_within : Cond.selects RX9 yX9_within yX9_within ∈ GT := gm4 (i := 149) (by decide +kernel) rfl
theorem g_cd_yX9_within : Cond.code yX9_within cX9_within 5 (some .int) ∈ GT := gm4 (i := 150) (by decide +kernel) rfl
theorem g_ml_X9_165 : Cond.methodLink RX9 165 yX9_liesIn ∈ GT := gm4 (i := 151) (by decide +kernel) rfl
theorem g_im_yX9_liesIn : Cond.instanceMethod yX9_liesIn ∈ GT := gm4 (i := 153) (by decide +kernel) rfl
theorem g_cd_yX9_liesIn : Cond.code yX9_liesIn cX9_liesIn 9 (some .boolean) ∈ GT := gm4 (i := 154) (by decide +kernel) rfl
theorem g_ml_X9_162 : Cond.methodLink RX9 162 yX9_lastOf ∈ GT := gm4 (i := 155) (by decide +kernel) rfl
theorem g_im_yX9_lastOf : Cond.instanceMethod yX9_lastOf ∈ GT := gm4 (i := 157) (by decide +kernel) rfl
theorem g_cd_yX9_lastOf : Cond.code yX9_lastOf cX9_lastOf 6 (some .long) ∈ GT := gm4 (i := 158) (by decide +kernel) rfl
theorem g_ml_L_128 : Cond.methodLink RL 128 yX9_array ∈ GT := gm4 (i := 159) (by decide +kernel) rfl
theorem g_im_yX9_array : Cond.instanceMethod yX9_array ∈ GT := gm4 (i := 160) (by decide +kernel) rfl
theorem g_se_X9_yX9_array_yX9_array : Cond.selects RX9 yX9_array yX9_array ∈ GT := gm4 (i := 161) (by decide +kernel) rfl
theorem g_cd_yX9_array : Cond.code yX9_array cX9_array 3 (some .int) ∈ GT := gm4 (i := 162) (by decide +kernel) rfl
theorem g_kl_X9_169 : Cond.constantLong RX9 169 (400) ∈ GT := gm4 (i := 163) (by decide +kernel) rfl
theorem g_ml_L_132 : Cond.methodLink RL 132 yX9_put ∈ GT := gm4 (i := 164) (by decide +kernel) rfl
theorem g_im_yX9_put : Cond.instanceMethod yX9_put ∈ GT := gm4 (i := 165) (by decide +kernel) rfl
theorem g_se_X9_yX9_put_yX9_put : Cond.selects RX9 yX9_put yX9_put ∈ GT := gm4 (i := 166) (by decide +kernel) rfl
theorem g_cd_yX9_put : Cond.code yX9_put cX9_put 5 (some .int) ∈ GT := gm4 (i := 167) (by decide +kernel) rfl
theorem g_ml_X9_171 : Cond.methodLink RX9 171 yX9_noArray ∈ GT := gm4 (i := 168) (by decide +kernel) rfl
theorem g_im_yX9_noArray : Cond.instanceMethod yX9_noArray ∈ GT := gm4 (i := 170) (by decide +kernel) rfl
theorem g_cd_yX9_noArray : Cond.code yX9_noArray cX9_noArray 2 (some .boolean) ∈ GT := gm4 (i := 171) (by decide +kernel) rfl
theorem g_ml_X9_174 : Cond.methodLink RX9 174 yX9_cellOf ∈ GT := gm4 (i := 172) (by decide +kernel) rfl
theorem g_im_yX9_cellOf : Cond.instanceMethod yX9_cellOf ∈ GT := gm4 (i := 174) (by decide +kernel) rfl
theorem g_cd_yX9_cellOf : Cond.code yX9_cellOf cX9_cellOf 2 (some .int) ∈ GT := gm4 (i := 175) (by decide +kernel) rfl
theorem g_ml_L_135 : Cond.methodLink RL 135 yX9_at ∈ GT := gm4 (i := 176) (by decide +kernel) rfl
theorem g_im_yX9_at : Cond.instanceMethod yX9_at ∈ GT := gm4 (i := 177) (by decide +kernel) rfl
theorem g_se_X9_yX9_at_yX9_at : Cond.selects RX9 yX9_at yX9_at ∈ GT := gm4 (i := 178) (by decide +kernel) rfl
theorem g_cd_yX9_at : Cond.code yX9_at cX9_at 3 (some .int) ∈ GT := gm4 (i := 179) (by decide +kernel) rfl
theorem g_ml_L_140 : Cond.methodLink RL 140 yX9_sum ∈ GT := gm4 (i := 180) (by decide +kernel) rfl
theorem g_im_yX9_sum : Cond.instanceMethod yX9_sum ∈ GT := gm4 (i := 181) (by decide +kernel) rfl
theorem g_se_X9_yX9_sum_yX9_sum : Cond.selects RX9 yX9_sum yX9_sum ∈ GT := gm4 (i := 182) (by decide +kernel) rfl
theorem g_cd_yX9_sum : Cond.code yX9_sum cX9_sum 9 (some .long) ∈ GT := gm4 (i := 183) (by decide +kernel) rfl
theorem g_kl_X9_178 : Cond.constantLong RX9 178 (-1000000102) ∈ GT := gm4 (i := 184) (by decide +kernel) rfl
theorem g_ml_L_144 : Cond.methodLink RL 144 yX9_over ∈ GT := gm4 (i := 185) (by decide +kernel) rfl
theorem g_im_yX9_over : Cond.instanceMethod yX9_over ∈ GT := gm4 (i := 186) (by decide +kernel) rfl
theorem g_se_X9_yX9_over_yX9_over : Cond.selects RX9 yX9_over yX9_over ∈ GT := gm4 (i := 187) (by decide +kernel) rfl
theorem g_cd_yX9_over : Cond.code yX9_over cX9_over 2 (some .int) ∈ GT := gm4 (i := 188) (by decide +kernel) rfl
theorem g_ml_L_148 : Cond.methodLink RL 148 yX9_count ∈ GT := gm4 (i := 189) (by decide +kernel) rfl
theorem g_im_yX9_count : Cond.instanceMethod yX9_count ∈ GT := gm4 (i := 190) (by decide +kernel) rfl
theorem g_se_X9_yX9_count_yX9_count : Cond.selects RX9 yX9_count yX9_count ∈ GT := gm4 (i := 191) (by decide +kernel) rfl
theorem g_cd_yX9_count : Cond.code yX9_count cX9_count 4 (some .int) ∈ GT := gm4 (i := 192) (by decide +kernel) rfl
theorem g_ml_L_152 : Cond.methodLink RL 152 yX9_clear ∈ GT := gm4 (i := 193) (by decide +kernel) rfl
theorem g_im_yX9_clear : Cond.instanceMethod yX9_clear ∈ GT := gm4 (i := 194) (by decide +kernel) rfl
theorem g_se_X9_yX9_clear_yX9_clear : Cond.selects RX9 yX9_clear yX9_clear ∈ GT := gm4 (i := 195) (by decide +kernel) rfl
theorem g_cd_yX9_clear : Cond.code yX9_clear cX9_clear 3 (some .int) ∈ GT := gm4 (i := 196) (by decide +kernel) rfl
theorem g_kl_L_50 : Cond.constantLong RL 50 (4294967295) ∈ GT := gm4 (i := 197) (by decide +kernel) rfl
theorem g_se_X6_yX6_placeOf_yX6_placeOf : Cond.selects RX6 yX6_placeOf yX6_placeOf ∈ GT := gm4 (i := 198) (by decide +kernel) rfl
theorem g_se_X8_yX8_addRow_yX8_addRow : Cond.selects RX8 yX8_addRow yX8_addRow ∈ GT := gm0 (i := 0) (by decide +kernel) rfl
theorem g_se_X8_yX8_isFull_yX8_isFull : Cond.selects RX8 yX8_isFull yX8_isFull ∈ GT := gm0 (i := 1) (by decide +kernel) rfl
theorem g_se_X8_yX8_add_yX8_add : Cond.selects RX8 yX8_add yX8_add ∈ GT := gm0 (i := 2) (by decide +kernel) rfl
theorem g_se_X8_yX8_rangeOf_yX8_rangeOf : Cond.selects RX8 yX8_rangeOf yX8_rangeOf ∈ GT := gm0 (i := 3) (by decide +kernel) rfl
theorem g_se_X8_yX8_addBeside_yX8_addBeside : Cond.selects RX8 yX8_addBeside yX8_addBeside ∈ GT := gm0 (i := 4) (by decide +kernel) rfl
theorem g_se_X8_yX8_placeOfHand_yX8_placeOfHand : Cond.selects RX8 yX8_placeOfHand yX8_placeOfHand ∈ GT := gm0 (i := 5) (by decide +kernel) rfl
theorem g_se_X6_yX6_liesInRow_yX6_liesInRow : Cond.selects RX6 yX6_liesInRow yX6_liesInRow ∈ GT := gm0 (i := 6) (by decide +kernel) rfl
theorem g_se_X8_yX8_baseOf_yX8_baseOf : Cond.selects RX8 yX8_baseOf yX8_baseOf ∈ GT := gm0 (i := 7) (by decide +kernel) rfl
theorem g_se_X8_yX8_cellsInUse_yX8_cellsInUse : Cond.selects RX8 yX8_cellsInUse yX8_cellsInUse ∈ GT := gm0 (i := 8) (by decide +kernel) rfl
theorem g_se_X8_yX8_cellOfHand_yX8_cellOfHand : Cond.selects RX8 yX8_cellOfHand yX8_cellOfHand ∈ GT := gm0 (i := 10) (by decide +kernel) rfl
theorem g_se_X9_yX9_addSingle_yX9_addSingle : Cond.selects RX9 yX9_addSingle yX9_addSingle ∈ GT := gm0 (i := 11) (by decide +kernel) rfl
theorem g_se_X9_yX9_singleSize_yX9_singleSize : Cond.selects RX9 yX9_singleSize yX9_singleSize ∈ GT := gm0 (i := 12) (by decide +kernel) rfl
theorem g_se_X9_yX9_noRange_yX9_noRange : Cond.selects RX9 yX9_noRange yX9_noRange ∈ GT := gm0 (i := 13) (by decide +kernel) rfl
theorem g_se_X9_yX9_begin_yX9_begin : Cond.selects RX9 yX9_begin yX9_begin ∈ GT := gm0 (i := 14) (by decide +kernel) rfl
theorem g_se_X9_yX9_take_yX9_take : Cond.selects RX9 yX9_take yX9_take ∈ GT := gm0 (i := 15) (by decide +kernel) rfl
theorem g_se_X9_yX9_sizeOf_yX9_sizeOf : Cond.selects RX9 yX9_sizeOf yX9_sizeOf ∈ GT := gm0 (i := 16) (by decide +kernel) rfl
theorem g_se_X9_yX9_isHeld_yX9_isHeld : Cond.selects RX9 yX9_isHeld yX9_isHeld ∈ GT := gm0 (i := 17) (by decide +kernel) rfl
theorem g_se_X9_yX9_hasNumber_yX9_hasNumber : Cond.selects RX9 yX9_hasNumber yX9_hasNumber ∈ GT := gm0 (i := 18) (by decide +kernel) rfl
theorem g_se_X9_yX9_place_yX9_place : Cond.selects RX9 yX9_place yX9_place ∈ GT := gm0 (i := 19) (by decide +kernel) rfl
theorem g_se_X9_yX9_placeOf_yX9_placeOf : Cond.selects RX9 yX9_placeOf yX9_placeOf ∈ GT := gm0 (i := 20) (by decide +kernel) rfl
theorem g_se_X9_yX9_hasPlace_yX9_hasPlace : Cond.selects RX9 yX9_hasPlace yX9_hasPlace ∈ GT := gm0 (i := 21) (by decide +kernel) rfl
theorem g_se_X9_yX9_lay_yX9_lay : Cond.selects RX9 yX9_lay yX9_lay ∈ GT := gm0 (i := 22) (by decide +kernel) rfl
theorem g_se_X9_yX9_numberAt_yX9_numberAt : Cond.selects RX9 yX9_numberAt yX9_numberAt ∈ GT := gm0 (i := 23) (by decide +kernel) rfl
theorem g_se_X9_yX9_liesIn_yX9_liesIn : Cond.selects RX9 yX9_liesIn yX9_liesIn ∈ GT := gm0 (i := 24) (by decide +kernel) rfl
theorem g_se_X9_yX9_lastOf_yX9_lastOf : Cond.selects RX9 yX9_lastOf yX9_lastOf ∈ GT := gm0 (i := 25) (by decide +kernel) rfl
theorem g_se_X9_yX9_noArray_yX9_noArray : Cond.selects RX9 yX9_noArray yX9_noArray ∈ GT := gm0 (i := 26) (by decide +kernel) rfl
theorem g_se_X9_yX9_cellOf_yX9_cellOf : Cond.selects RX9 yX9_cellOf yX9_cellOf ∈ GT := gm0 (i := 27) (by decide +kernel) rfl
theorem in_X0 : ∀ w ∈ u_ws RX0 TX0 5, w ∈ GT := fun w h => gm_of ((by decide +kernel : ∀ w ∈ u_ws RX0 TX0 5, w ∈ lw_tbl) w h) ((by decide +kernel : ∀ w ∈ u_ws RX0 TX0 5, goodWord w = true) w h)
theorem in_X1 : ∀ w ∈ u_ws RX1 TX1 5, w ∈ GT := fun w h => gm_of ((by decide +kernel : ∀ w ∈ u_ws RX1 TX1 5, w ∈ lw_tbl) w h) ((by decide +kernel : ∀ w ∈ u_ws RX1 TX1 5, goodWord w = true) w h)
theorem in_X2 : ∀ w ∈ u_ws RX2 TX2 1, w ∈ GT := fun w h => gm_of ((by decide +kernel : ∀ w ∈ u_ws RX2 TX2 1, w ∈ lw_tbl) w h) ((by decide +kernel : ∀ w ∈ u_ws RX2 TX2 1, goodWord w = true) w h)
theorem in_X3 : ∀ w ∈ u_ws RX3 TX3 4, w ∈ GT := fun w h => gm_of ((by decide +kernel : ∀ w ∈ u_ws RX3 TX3 4, w ∈ lw_tbl) w h) ((by decide +kernel : ∀ w ∈ u_ws RX3 TX3 4, goodWord w = true) w h)
theorem in_X4 : ∀ w ∈ u_ws RX4 TX4 6, w ∈ GT := fun w h => gm_of ((by decide +kernel : ∀ w ∈ u_ws RX4 TX4 6, w ∈ lw_tbl) w h) ((by decide +kernel : ∀ w ∈ u_ws RX4 TX4 6, goodWord w = true) w h)
theorem in_X6 : ∀ w ∈ u_ws RX6 TX6 7, w ∈ GT := fun w h => gm_of ((by decide +kernel : ∀ w ∈ u_ws RX6 TX6 7, w ∈ lw_tbl) w h) ((by decide +kernel : ∀ w ∈ u_ws RX6 TX6 7, goodWord w = true) w h)
theorem in_X8 : ∀ w ∈ u_ws RX8 TX8 8, w ∈ GT := fun w h => gm_of ((by decide +kernel : ∀ w ∈ u_ws RX8 TX8 8, w ∈ lw_tbl) w h) ((by decide +kernel : ∀ w ∈ u_ws RX8 TX8 8, goodWord w = true) w h)
theorem in_X9 : ∀ w ∈ u_ws RX9 TX9 22, w ∈ GT := fun w h => gm_of ((by decide +kernel : ∀ w ∈ u_ws RX9 TX9 22, w ∈ lw_tbl) w h) ((by decide +kernel : ∀ w ∈ u_ws RX9 TX9 22, goodWord w = true) w h)
end
section
/-! the layer of walks: a world is what is known of the cells (f : St), the locals a list, newest first (lv : Lv) -/
abbrev St : Type := Nat → Option va_E
abbrev Lv : Type := List (Nat × Option Value)
abbrev classes : List vw_C := [(RX0, TX0, 5), (RX1, TX1, 5), (RX2, TX2, 1), (RX3, TX3, 4), (RX4, TX4, 6), (RX6, TX6, 7), (RX8, TX8, 8), (RX9, TX9, 22)]
def tyL (K : Nat → ClassId) : List (ClassId × FieldType) := [(K 0, .int), (K 1, .long), (K 2, .boolean), (K 3, .object RX5), (K 4, .array .int)]
def lk : Lv → Nat → Option Value
  | [], _ => none
  | q :: t, i => cond (Nat.beq q.1 i) q.2 (lk t i)
theorem lk_key {lv : Lv} {i : Nat} {v : Value} (h : lk lv i = some v) : i ∈ lv.map (fun q => q.1) := by
  induction lv with
  | nil => cases h
  | cons q t ih =>
    unfold lk at h
    cases hb : Nat.beq q.1 i with
    | true =>
      rw [← Nat.eq_of_beq_eq_true hb]
      exact List.mem_cons_self
    | false =>
      rw [hb] at h
      exact List.mem_cons_of_mem _ (ih h)
def lvL (lv : Lv) : List (Nat × Value) := (lv.map (fun q => q.1)).filterMap (fun i => (lk lv i).map (fun v => (i, v)))
theorem lvL_mem {lv : Lv} {i : Nat} {v : Value} (h : lk lv i = some v) : (i, v) ∈ lvL lv := List.mem_filterMap.mpr ⟨i, lk_key h, by rw [h]; rfl⟩
theorem lvL_of {lv : Lv} {q : Nat × Value} (h : q ∈ lvL lv) : lk lv q.1 = some q.2 := by
  obtain ⟨i, _, h2⟩ := List.mem_filterMap.mp h
  cases hk : lk lv i with
  | none => rw [hk] at h2; cases h2
  | some v => rw [hk] at h2; cases h2; exact hk
def lh (ls : Array Slot) (nL : Nat) (lv : Lv) : Prop := ls.size = nL ∧ lv_wf ls ∧ ∀ i v, lk lv i = some v → ls[i]? = some (.val v)
theorem lh.has {ls : Array Slot} {nL : Nat} {lv : Lv} (h : lh ls nL lv) : lv_has ls nL (lvL lv) := ⟨h.1, h.2.1, fun _ hq => h.2.2 _ _ (lvL_of hq)⟩
def nc (lv : Lv) (i : Nat) : Bool := match i with
  | 0 => true
  | j + 1 => match lk lv j with
    | some w => Nat.beq w.category 1
    | none => true
theorem nc_spec {lv : Lv} {j : Nat} {w : Value} (hn : nc lv (j + 1) = true) (h : lk lv j = some w) : w.category = 1 := by
  have hn2 : (match lk lv j with
    | some w => Nat.beq w.category 1
    | none => true) = true := hn
  rw [h] at hn2
  exact Nat.eq_of_beq_eq_true hn2
theorem lh_put1 {ls' : Array Slot} {nL : Nat} {lv : Lv} {i : Nat} {v : Value} (hn : nc lv i = true) (h : lv_has ls' nL ((i, v) :: (lvL lv).filter (fun q => !(q.1 == i) && !(q.1 + 1 == i && q.2.category == 2)))) : lh ls' nL ((i, some v) :: lv) := by
  refine ⟨h.1, h.2.1, fun j w hw => ?_⟩
  unfold lk at hw
  cases hb : Nat.beq i j with
  | true =>
    simp only [hb, cond_true] at hw
    cases hw
    rw [← Nat.eq_of_beq_eq_true hb]
    exact h.2.2 (i, v) List.mem_cons_self
  | false =>
    simp only [hb, cond_false] at hw
    have hne : j ≠ i := fun e => by rw [e, Nat.beq_refl] at hb; cases hb
    refine h.2.2 (j, w) (List.mem_cons_of_mem _ (List.mem_filter.mpr ⟨lvL_mem hw, ?_⟩))
    by_cases e : j + 1 = i
    · subst e
      have hc := nc_spec hn hw
      simp [hc]
    · simp [hne, e]
theorem lh_put2 {ls' : Array Slot} {nL : Nat} {lv : Lv} {i : Nat} {v : Value} (hn : nc lv i = true) (h : lv_has ls' nL ((i, v) :: (lvL lv).filter (fun q => !(q.1 == i) && (!(q.1 == i + 1) && !(q.1 + 1 == i && q.2.category == 2))))) : lh ls' nL ((i, some v) :: (i + 1, none) :: lv) := by
  refine ⟨h.1, h.2.1, fun j w hw => ?_⟩
  unfold lk at hw
  cases hb : Nat.beq i j with
  | true =>
    simp only [hb, cond_true] at hw
    cases hw
    rw [← Nat.eq_of_beq_eq_true hb]
    exact h.2.2 (i, v) List.mem_cons_self
  | false =>
    simp only [hb, cond_false] at hw
    unfold lk at hw
    cases hb2 : Nat.beq (i + 1) j with
    | true =>
      simp only [hb2, cond_true] at hw
      cases hw
    | false =>
      simp only [hb2, cond_false] at hw
      have hne : j ≠ i := fun e => by rw [e, Nat.beq_refl] at hb; cases hb
      have hne2 : j ≠ i + 1 := fun e => by rw [e, Nat.beq_refl] at hb2; cases hb2
      refine h.2.2 (j, w) (List.mem_cons_of_mem _ (List.mem_filter.mpr ⟨lvL_mem hw, ?_⟩))
      by_cases e : j + 1 = i
      · subst e
        have hc := nc_spec hn hw
        simp [hc]
        omega
      · simp [hne, hne2, e]
/-- the locals of lv' are among those of lv -/
def lsub (lv : Lv) : List (Nat × Value) → Prop
  | [] => True
  | q :: t => lk lv q.1 = some q.2 ∧ lsub lv t
def lof (l : List (Nat × Value)) : Lv := l.map (fun q => (q.1, some q.2))
theorem lsub_lk {lv : Lv} {l : List (Nat × Value)} (h : lsub lv l) {i : Nat} {v : Value} (hk : lk (lof l) i = some v) : lk lv i = some v := by
  induction l with
  | nil => cases hk
  | cons q t ih =>
    unfold lof at hk
    rw [List.map_cons] at hk
    unfold lk at hk
    cases hb : Nat.beq q.1 i with
    | true =>
      simp only [hb, cond_true] at hk
      cases hk
      rw [← Nat.eq_of_beq_eq_true hb]
      exact h.1
    | false =>
      simp only [hb, cond_false] at hk
      exact ih h.2 hk
theorem lh.sub {ls : Array Slot} {nL : Nat} {lv : Lv} {l : List (Nat × Value)} (h : lh ls nL lv) (hs : lsub lv l) : lh ls nL (lof l) := ⟨h.1, h.2.1, fun _ _ hk => h.2.2 _ _ (lsub_lk hs hk)⟩
/-- the heap holds what f says -/
def hw (D : va_G) (B : Nat) (f : St) (H : Heap) : Prop := ∃ (L : List Nat) (g : Nat → va_E), va_P D classes (va_pl L g) H ∧ va_D (fun q => B ≤ q) (va_pl L g) ∧ ∀ a e, f a = some e → a ∈ L ∧ g a = e
theorem hw.sub {D : va_G} {B : Nat} {f f' : St} {H : Heap} (h : hw D B f H) (hs : ∀ a e, f' a = some e → f a = some e) : hw D B f' H := by
  obtain ⟨L, g, h1, h2, h3⟩ := h
  exact ⟨L, g, h1, h2, fun a e he => h3 a e (hs a e he)⟩
theorem hw.one {D : va_G} {B : Nat} {f : St} {H : Heap} (h : hw D B f H) {a : Nat} {x : va_E} (ha : f a = some x) : va_P D classes [(a, x)] H := by
  obtain ⟨L, g, h1, h2, h3⟩ := h
  obtain ⟨hL, hg⟩ := h3 a x ha
  obtain ⟨k, hk⟩ := va_pl_get (X := []) (f := g) hL
  rw [List.nil_append, hg] at hk
  intro i q hq
  match i, hq with
  | 0, hq => cases hq; exact h1 k _ hk
  | i + 1, hq => simp at hq
theorem hw.ge {D : va_G} {B : Nat} {f : St} {H : Heap} (h : hw D B f H) {a : Nat} {x : va_E} (ha : f a = some x) : B ≤ a := by
  obtain ⟨L, g, h1, h2, h3⟩ := h
  obtain ⟨hL, hg⟩ := h3 a x ha
  obtain ⟨k, hk⟩ := va_pl_get (X := []) (f := g) hL
  rw [List.nil_append] at hk
  exact h2.2 k _ hk
theorem hw.lt {D : va_G} {B : Nat} {f : St} {H : Heap} (h : hw D B f H) {a : Nat} {x : va_E} (ha : f a = some x) : a < H.size := vx_lt (hw.one h ha) (k := 0) rfl
theorem hw.kept {D : va_G} {B : Nat} {f : St} {H H1 : Heap} (h : hw D B f H) (hk : ∀ q : Nat, q < H.size → H1[q]? = H[q]?) : hw D B f H1 := by
  obtain ⟨L, g, h1, h2, h3⟩ := h
  exact ⟨L, g, h1.kept (fun k q hq => hk q.1 (vx_lt h1 hq)), h2, h3⟩
/-- one place of the world, for the kit's rows -/
theorem hw.place {D : va_G} {B : Nat} {f : St} {H : Heap} (h : hw D B f H) {a : Nat} {x : va_E} (ha : f a = some x) : ∃ (ws : va_W) (k : Nat), va_P D classes ws H ∧ va_D (fun q => B ≤ q) ws ∧ ws[k]? = some (a, x) ∧ ∀ (y : va_E) (H1 : Heap), va_P D classes (ws.set k (a, y)) H1 → va_D (fun q => B ≤ q) (ws.set k (a, y)) → hw D B (va_up f a (some y)) H1 := by
  obtain ⟨L, g, h1, h2, h3⟩ := h
  obtain ⟨hL, hg⟩ := h3 a x ha
  obtain ⟨k, hk⟩ := va_pl_get (X := []) (f := g) hL
  refine ⟨va_pl L g, k, h1, h2, by rw [List.nil_append, hg] at hk; exact hk, fun y H1 hP hD => ?_⟩
  have e := va_pl_set (e := y) (X := []) h2 hL hk
  rw [List.nil_append, List.nil_append] at e
  rw [e] at hP hD
  refine ⟨L, va_up g a y, hP, hD, fun b z hz => ?_⟩
  by_cases hb : b = a
  · subst hb
    rw [va_up_self] at hz ⊢
    exact ⟨hL, Option.some.inj hz⟩
  · rw [va_up_ne _ _ hb] at hz ⊢
    exact h3 b z hz
/-- something new -/
theorem hw.push {D : va_G} {B : Nat} {f : St} {H : Heap} (h : hw D B f H) : ∃ ws : va_W, va_P D classes ws H ∧ va_D (fun q => B ≤ q) ws ∧ ∀ (q : Nat) (y : va_E) (H1 : Heap), va_P D classes (ws ++ [(q, y)]) H1 → va_D (fun q => B ≤ q) (ws ++ [(q, y)]) → f q = none ∧ hw D B (va_up f q (some y)) H1 := by
  obtain ⟨L, g, h1, h2, h3⟩ := h
  refine ⟨va_pl L g, h1, h2, fun q y H1 hP hD => ?_⟩
  have hq : q ∉ L := va_pl_fresh2 (X := []) (e := y) (by rw [List.nil_append]; exact hD)
  have hn : f q = none := by
    cases hf : f q with
    | none => rfl
    | some z => exact absurd (h3 q z hf).1 hq
  refine ⟨hn, L ++ [q], va_up g q y, by rw [← va_pl_push hq]; exact hP, by rw [← va_pl_push hq]; exact hD, fun b z hz => ?_⟩
  by_cases hb : b = q
  · subst hb
    rw [va_up_self] at hz ⊢
    exact ⟨List.mem_append_right _ List.mem_cons_self, Option.some.inj hz⟩
  · rw [va_up_ne _ _ hb] at hz ⊢
    exact ⟨List.mem_append_left _ (h3 b z hz).1, (h3 b z hz).2⟩
/-- what the tables say beside the good words -/
abbrev xR_place : MethodName := ⟨RX5, "place", "(LIndexRanges$Hand;IILIndexRanges$Miss;)J"⟩
abbrev xR_fill : MethodName := ⟨RX5, "fill", "(LIndexRanges$Hand;IJ)V"⟩
abbrev xR_singleAt : MethodName := ⟨RX5, "singleAt", "(I)LIndexRanges$Single;"⟩
abbrev xR_madeOf : MethodName := ⟨RX5, "madeOf", "()I"⟩
abbrev xS_placeOf : MethodName := ⟨RX7, "placeOf", "(J)J"⟩
abbrev xS_valueAt : MethodName := ⟨RX7, "valueAt", "(J)J"⟩
abbrev xS_liesIn : MethodName := ⟨RX7, "liesIn", "(LIndexRanges$Single;)Z"⟩
def nbL : List Cond := [.methodLinkNest RX8 21 yX3_init RX8, .methodLinkNest RX6 27 yX8_quotient RX8, .methodLinkNest RX1 25 yX8_times RX8, .methodLinkNest RX1 29 yX8_plus RX8,
  .declares xR_place, .declares xR_fill, .declares xR_singleAt, .declares xR_madeOf, .declares xS_placeOf, .declares xS_valueAt, .declares xS_liesIn,
  .castable RX0 RX5, .castable RX1 RX5, .castable RX4 RX5, .castable RX6 RX5, .castable RX6 RX6]
def NB (U : State) : Prop := (∀ w ∈ nbL, va_Nw w U) ∧ va_Nc RX4 RX6 U ∧ va_AO RX5 U
theorem NB.same {u U : State} (h : u.vm = U.vm) (hN : NB u) : NB U := by
  refine ⟨fun w hw => va_Nw.same ?_ h (hN.1 w hw), va_Nc.moved (by rw [h]; exact Vm.Alike.refl _) hN.2.1, va_AO.moved (by rw [h]; exact Vm.Alike.refl _) hN.2.2⟩
  exact (by decide +kernel : ∀ w ∈ nbL, w.onTables = true) w hw
theorem NB.warm {s U : State} (h : s.WarmedH U.vm) (hN : NB s) : NB U := by
  refine ⟨?_, va_Nc.moved h.alike hN.2.1, va_AO.moved h.alike hN.2.2⟩
  have h1 := hN.1
  simp only [nbL, List.forall_mem_cons] at h1 ⊢
  obtain ⟨a1, a2, a3, a4, b1, b2, b3, b4, b5, b6, b7, c1, c2, c3, c4, c5, _⟩ := h1
  exact ⟨a1.warmM h, a2.warmM h, a3.warmM h, a4.warmM h, b1.warmD h, b2.warmD h, b3.warmD h, b4.warmD h, b5.warmD h, b6.warmD h, b7.warmD h, c1.warmC h, c2.warmC h, c3.warmC h, c4.warmC h, c5.warmC h, fun _ hx => nomatch hx⟩
def Pre (D : va_G) (B : Nat) (K : Nat → ClassId) (f : St) (U : State) : Prop := hw D B f U.heap ∧ va_K D classes (tyL K) U ∧ B ≤ U.heap.size ∧ NB U
theorem pre_blind {D : va_G} {B : Nat} {K : Nat → ClassId} {f : St} {av : List Value} : FrameBlind (va_Pc av (Pre D B K f)) := fun _ U g mk q => by
  obtain ⟨q0, q1, q2, q3, q4⟩ := q
  exact ⟨q0, q1, va_K.moved (u := U) (U := U.calling g mk _) (Vm.Alike.refl U.vm) q2, q3, NB.same (u := U) rfl q4⟩
/-- rooms by levels -/
def RM (n c s : Nat) : Room := { frames := n, cells := c, slots := s, locals := 40 * n }
def RN (R : Room) (n : Nat) : Prop := n ≤ R.frames ∧ 40 * n ≤ R.locals
theorem rn_le {n N c s : Nat} (h : n ≤ N) : RN (RM N c s) n := ⟨h, Nat.mul_le_mul_left 40 h⟩
abbrev ws_ (y : MethodName) (cc : ByteArray) (n : Nat) (ret : Option FieldType) : List Cond := Cond.code y cc n ret :: GT
theorem gt_in {w : Cond} (h : w ∈ GT) : w ∈ GT ∧ ((w.onTables && w.keeps) = true ∨ ∃ ty, w = .arrayClass ty) := ⟨h, good_of_word (gt_good w h)⟩
theorem gt_ws {y : MethodName} {cc : ByteArray} {n : Nat} {ret : Option FieldType} (h : Cond.code y cc n ret ∈ GT) : GoodIn GT (ws_ y cc n ret) := fun w hw => (List.mem_cons.mp hw).elim (fun e => by rw [e]; exact gt_in h) gt_in
def Cx (p : Program) (s : State) (m : MethodId) (args : Array Value) (c : Code) (cc : ByteArray) (nL : Nat) (own : String) (D : va_G) (B : Nat) (K : Nat → ClassId) : Prop :=
  p.tables.exec = Jvm.exec ∧ c.code = cc ∧ c.maxLocals = nL ∧ s.vm.findClass own = some m.cls ∧ (∀ w ∈ GT, w.before args s = true) ∧ va_K D classes (tyL K) s ∧ B ≤ s.heap.size ∧ NB s
def V (p : Program) (l : Launch) (e : Env) (R : Room) (s : State) (m : MethodId) (args : Array Value) (below : List Frame) (meth : Method) (c : Code) (D : va_G) (B nL : Nat) (Q : State → Prop) (ce sl : Nat) (f : St) (lv : Lv) (pc : Nat) (st : List Value) : Prop :=
  ∀ (H : Heap) (locs : List Loc) (ls : Array Slot), hw D B f H → va_S (fun q => B ≤ q) s.heap H locs → lh ls nL lv → W p l e R s m args below meth c H locs ce sl Q (F0 m pc ls st)
section VL
variable {p : Program} {l : Launch} {e : Env} {R : Room} {s : State} {m : MethodId} {args : Array Value} {below : List Frame} {meth : Method} {c : Code} {D : va_G} {B nL : Nat} {Q : State → Prop} {ce sl : Nat} {f : St} {lv : Lv} {pc : Nat} {st : List Value} {cc : ByteArray} {own : String} {K : Nat → ClassId}

theorem v_iconst (C : Cx p s m args c cc nL own D B K) {n : Int} {v : Int32} (hd : decode cc pc = .ok (.iconst n, 1)) (hv : Int32.ofInt n = v) (k : V p l e R s m args below meth c D B nL Q ce sl f lv (pc + 1) (.int v :: st)) : V p l e R s m args below meth c D B nL Q ce sl f lv pc st := fun H locs ls h hS hl => lv_iconst C.1 C.2.1 hd hv (k H locs ls h hS hl)
theorem v_bipush (C : Cx p s m args c cc nL own D B K) {n : Int} {v : Int32} (hd : decode cc pc = .ok (.bipush n, 2)) (hv : (Int8.ofInt n).toInt32 = v) (k : V p l e R s m args below meth c D B nL Q ce sl f lv (pc + 2) (.int v :: st)) : V p l e R s m args below meth c D B nL Q ce sl f lv pc st := fun H locs ls h hS hl => lv_bipush C.1 C.2.1 hd hv (k H locs ls h hS hl)
theorem v_sipush (C : Cx p s m args c cc nL own D B K) {n : Int} {v : Int32} (hd : decode cc pc = .ok (.sipush n, 3)) (hv : (Int16.ofInt n).toInt32 = v) (k : V p l e R s m args below meth c D B nL Q ce sl f lv (pc + 3) (.int v :: st)) : V p l e R s m args below meth c D B nL Q ce sl f lv pc st := fun H locs ls h hS hl => lv_sipush C.1 C.2.1 hd hv (k H locs ls h hS hl)
theorem v_lconst (C : Cx p s m args c cc nL own D B K) {n : Fin 2} {v : Int64} (hd : decode cc pc = .ok (.lconst n, 1)) (hv : Int64.ofNat (n : Nat) = v) (k : V p l e R s m args below meth c D B nL Q ce sl f lv (pc + 1) (.long v :: st)) : V p l e R s m args below meth c D B nL Q ce sl f lv pc st := fun H locs ls h hS hl => lv_lconst C.1 C.2.1 hd hv (k H locs ls h hS hl)
theorem v_iload_n (C : Cx p s m args c cc nL own D B K) {k9 : Fin 4} {i : Nat} {x : Int32} (hd : decode cc pc = .ok (.iload_n k9, 1)) (hi : (k9 : Nat) = i) (hx : lk lv i = some (.int x)) (k : V p l e R s m args below meth c D B nL Q ce sl f lv (pc + 1) (.int x :: st)) : V p l e R s m args below meth c D B nL Q ce sl f lv pc st := fun H locs ls h hS hl => lv_iload_n C.1 C.2.1 hd hi (hl.2.2 _ _ hx) (k H locs ls h hS hl)
theorem v_iload (C : Cx p s m args c cc nL own D B K) {i : Nat} {x : Int32} (hd : decode cc pc = .ok (.iload i, 2)) (hx : lk lv i = some (.int x)) (k : V p l e R s m args below meth c D B nL Q ce sl f lv (pc + 2) (.int x :: st)) : V p l e R s m args below meth c D B nL Q ce sl f lv pc st := fun H locs ls h hS hl => lv_iload C.1 C.2.1 hd (hl.2.2 _ _ hx) (k H locs ls h hS hl)
theorem v_lload_n (C : Cx p s m args c cc nL own D B K) {k9 : Fin 4} {i : Nat} {x : Int64} (hd : decode cc pc = .ok (.lload_n k9, 1)) (hi : (k9 : Nat) = i) (hx : lk lv i = some (.long x)) (k : V p l e R s m args below meth c D B nL Q ce sl f lv (pc + 1) (.long x :: st)) : V p l e R s m args below meth c D B nL Q ce sl f lv pc st := fun H locs ls h hS hl => lv_lload_n C.1 C.2.1 hd hi (hl.2.2 _ _ hx) (k H locs ls h hS hl)
theorem v_lload (C : Cx p s m args c cc nL own D B K) {i : Nat} {x : Int64} (hd : decode cc pc = .ok (.lload i, 2)) (hx : lk lv i = some (.long x)) (k : V p l e R s m args below meth c D B nL Q ce sl f lv (pc + 2) (.long x :: st)) : V p l e R s m args below meth c D B nL Q ce sl f lv pc st := fun H locs ls h hS hl => lv_lload C.1 C.2.1 hd (hl.2.2 _ _ hx) (k H locs ls h hS hl)
theorem v_aload_n (C : Cx p s m args c cc nL own D B K) {k9 : Fin 4} {i : Nat} {x : Nat} (hd : decode cc pc = .ok (.aload_n k9, 1)) (hi : (k9 : Nat) = i) (hx : lk lv i = some (.ref x)) (k : V p l e R s m args below meth c D B nL Q ce sl f lv (pc + 1) (.ref x :: st)) : V p l e R s m args below meth c D B nL Q ce sl f lv pc st := fun H locs ls h hS hl => lv_aload_n C.1 C.2.1 hd hi (hl.2.2 _ _ hx) (k H locs ls h hS hl)
theorem v_aload (C : Cx p s m args c cc nL own D B K) {i : Nat} {x : Nat} (hd : decode cc pc = .ok (.aload i, 2)) (hx : lk lv i = some (.ref x)) (k : V p l e R s m args below meth c D B nL Q ce sl f lv (pc + 2) (.ref x :: st)) : V p l e R s m args below meth c D B nL Q ce sl f lv pc st := fun H locs ls h hS hl => lv_aload C.1 C.2.1 hd (hl.2.2 _ _ hx) (k H locs ls h hS hl)
theorem v_aload_nN (C : Cx p s m args c cc nL own D B K) {k9 : Fin 4} {i : Nat} (hd : decode cc pc = .ok (.aload_n k9, 1)) (hi : (k9 : Nat) = i) (hx : lk lv i = some .null) (k : V p l e R s m args below meth c D B nL Q ce sl f lv (pc + 1) (.null :: st)) : V p l e R s m args below meth c D B nL Q ce sl f lv pc st := fun H locs ls h hS hl => lv_aload_nN C.1 C.2.1 hd hi (hl.2.2 _ _ hx) (k H locs ls h hS hl)
theorem v_aloadN (C : Cx p s m args c cc nL own D B K) {i : Nat} (hd : decode cc pc = .ok (.aload i, 2)) (hx : lk lv i = some .null) (k : V p l e R s m args below meth c D B nL Q ce sl f lv (pc + 2) (.null :: st)) : V p l e R s m args below meth c D B nL Q ce sl f lv pc st := fun H locs ls h hS hl => lv_aloadN C.1 C.2.1 hd (hl.2.2 _ _ hx) (k H locs ls h hS hl)
theorem v_iadd (C : Cx p s m args c cc nL own D B K) {x y : Int32} (hd : decode cc pc = .ok (.iadd, 1))  (k : V p l e R s m args below meth c D B nL Q ce sl f lv (pc + 1) (.int (x + y) :: st)) : V p l e R s m args below meth c D B nL Q ce sl f lv pc (.int y :: .int x :: st) := fun H locs ls h hS hl => lv_iadd C.1 C.2.1 hd (k H locs ls h hS hl)
theorem v_isub (C : Cx p s m args c cc nL own D B K) {x y : Int32} (hd : decode cc pc = .ok (.isub, 1))  (k : V p l e R s m args below meth c D B nL Q ce sl f lv (pc + 1) (.int (x - y) :: st)) : V p l e R s m args below meth c D B nL Q ce sl f lv pc (.int y :: .int x :: st) := fun H locs ls h hS hl => lv_isub C.1 C.2.1 hd (k H locs ls h hS hl)
theorem v_imul (C : Cx p s m args c cc nL own D B K) {x y : Int32} (hd : decode cc pc = .ok (.imul, 1))  (k : V p l e R s m args below meth c D B nL Q ce sl f lv (pc + 1) (.int (x * y) :: st)) : V p l e R s m args below meth c D B nL Q ce sl f lv pc (.int y :: .int x :: st) := fun H locs ls h hS hl => lv_imul C.1 C.2.1 hd (k H locs ls h hS hl)
theorem v_iand (C : Cx p s m args c cc nL own D B K) {x y : Int32} (hd : decode cc pc = .ok (.iand, 1))  (k : V p l e R s m args below meth c D B nL Q ce sl f lv (pc + 1) (.int (x &&& y) :: st)) : V p l e R s m args below meth c D B nL Q ce sl f lv pc (.int y :: .int x :: st) := fun H locs ls h hS hl => lv_iand C.1 C.2.1 hd (k H locs ls h hS hl)
theorem v_ladd (C : Cx p s m args c cc nL own D B K) {x y : Int64} (hd : decode cc pc = .ok (.ladd, 1))  (k : V p l e R s m args below meth c D B nL Q ce sl f lv (pc + 1) (.long (x + y) :: st)) : V p l e R s m args below meth c D B nL Q ce sl f lv pc (.long y :: .long x :: st) := fun H locs ls h hS hl => lv_ladd C.1 C.2.1 hd (k H locs ls h hS hl)
theorem v_lsub (C : Cx p s m args c cc nL own D B K) {x y : Int64} (hd : decode cc pc = .ok (.lsub, 1))  (k : V p l e R s m args below meth c D B nL Q ce sl f lv (pc + 1) (.long (x - y) :: st)) : V p l e R s m args below meth c D B nL Q ce sl f lv pc (.long y :: .long x :: st) := fun H locs ls h hS hl => lv_lsub C.1 C.2.1 hd (k H locs ls h hS hl)
theorem v_lmul (C : Cx p s m args c cc nL own D B K) {x y : Int64} (hd : decode cc pc = .ok (.lmul, 1))  (k : V p l e R s m args below meth c D B nL Q ce sl f lv (pc + 1) (.long (x * y) :: st)) : V p l e R s m args below meth c D B nL Q ce sl f lv pc (.long y :: .long x :: st) := fun H locs ls h hS hl => lv_lmul C.1 C.2.1 hd (k H locs ls h hS hl)
theorem v_land (C : Cx p s m args c cc nL own D B K) {x y : Int64} (hd : decode cc pc = .ok (.land, 1))  (k : V p l e R s m args below meth c D B nL Q ce sl f lv (pc + 1) (.long (x &&& y) :: st)) : V p l e R s m args below meth c D B nL Q ce sl f lv pc (.long y :: .long x :: st) := fun H locs ls h hS hl => lv_land C.1 C.2.1 hd (k H locs ls h hS hl)
theorem v_lor (C : Cx p s m args c cc nL own D B K) {x y : Int64} (hd : decode cc pc = .ok (.lor, 1))  (k : V p l e R s m args below meth c D B nL Q ce sl f lv (pc + 1) (.long (x ||| y) :: st)) : V p l e R s m args below meth c D B nL Q ce sl f lv pc (.long y :: .long x :: st) := fun H locs ls h hS hl => lv_lor C.1 C.2.1 hd (k H locs ls h hS hl)
theorem v_ineg (C : Cx p s m args c cc nL own D B K) {x : Int32} (hd : decode cc pc = .ok (.ineg, 1))  (k : V p l e R s m args below meth c D B nL Q ce sl f lv (pc + 1) (.int (-x) :: st)) : V p l e R s m args below meth c D B nL Q ce sl f lv pc (.int x :: st) := fun H locs ls h hS hl => lv_ineg C.1 C.2.1 hd (k H locs ls h hS hl)
theorem v_lneg (C : Cx p s m args c cc nL own D B K) {x : Int64} (hd : decode cc pc = .ok (.lneg, 1))  (k : V p l e R s m args below meth c D B nL Q ce sl f lv (pc + 1) (.long (-x) :: st)) : V p l e R s m args below meth c D B nL Q ce sl f lv pc (.long x :: st) := fun H locs ls h hS hl => lv_lneg C.1 C.2.1 hd (k H locs ls h hS hl)
theorem v_irem (C : Cx p s m args c cc nL own D B K) {x y : Int32} (hd : decode cc pc = .ok (.irem, 1)) (hne : ¬ y = 0) (k : V p l e R s m args below meth c D B nL Q ce sl f lv (pc + 1) (.int (x - x / y * y) :: st)) : V p l e R s m args below meth c D B nL Q ce sl f lv pc (.int y :: .int x :: st) := fun H locs ls h hS hl => lv_irem C.1 C.2.1 hd hne (k H locs ls h hS hl)
theorem v_ldiv (C : Cx p s m args c cc nL own D B K) {x y : Int64} (hd : decode cc pc = .ok (.ldiv, 1)) (hne : ¬ y = 0) (k : V p l e R s m args below meth c D B nL Q ce sl f lv (pc + 1) (.long (x / y) :: st)) : V p l e R s m args below meth c D B nL Q ce sl f lv pc (.long y :: .long x :: st) := fun H locs ls h hS hl => lv_ldiv C.1 C.2.1 hd hne (k H locs ls h hS hl)
theorem v_lrem (C : Cx p s m args c cc nL own D B K) {x y : Int64} (hd : decode cc pc = .ok (.lrem, 1)) (hne : ¬ y = 0) (k : V p l e R s m args below meth c D B nL Q ce sl f lv (pc + 1) (.long (x - x / y * y) :: st)) : V p l e R s m args below meth c D B nL Q ce sl f lv pc (.long y :: .long x :: st) := fun H locs ls h hS hl => lv_lrem C.1 C.2.1 hd hne (k H locs ls h hS hl)
theorem v_lshl (C : Cx p s m args c cc nL own D B K) {x : Int64} {y : Int32} (hd : decode cc pc = .ok (.lshl, 1))  (k : V p l e R s m args below meth c D B nL Q ce sl f lv (pc + 1) (.long (x <<< (y.toInt64 &&& 63)) :: st)) : V p l e R s m args below meth c D B nL Q ce sl f lv pc (.int y :: .long x :: st) := fun H locs ls h hS hl => lv_lshl C.1 C.2.1 hd rfl (k H locs ls h hS hl)
theorem v_lushr (C : Cx p s m args c cc nL own D B K) {x : Int64} {y : Int32} (hd : decode cc pc = .ok (.lushr, 1))  (k : V p l e R s m args below meth c D B nL Q ce sl f lv (pc + 1) (.long (x.toUInt64 >>> (y.toInt64.toUInt64 &&& Int64.toUInt64 63)).toInt64 :: st)) : V p l e R s m args below meth c D B nL Q ce sl f lv pc (.int y :: .long x :: st) := fun H locs ls h hS hl => lv_lushr C.1 C.2.1 hd rfl (k H locs ls h hS hl)
theorem v_i2l (C : Cx p s m args c cc nL own D B K) {x : Int32} (hd : decode cc pc = .ok (.i2l, 1))  (k : V p l e R s m args below meth c D B nL Q ce sl f lv (pc + 1) (.long x.toInt64 :: st)) : V p l e R s m args below meth c D B nL Q ce sl f lv pc (.int x :: st) := fun H locs ls h hS hl => lv_i2l C.1 C.2.1 hd rfl (k H locs ls h hS hl)
theorem v_l2i (C : Cx p s m args c cc nL own D B K) {x : Int64} (hd : decode cc pc = .ok (.l2i, 1))  (k : V p l e R s m args below meth c D B nL Q ce sl f lv (pc + 1) (.int x.toInt32 :: st)) : V p l e R s m args below meth c D B nL Q ce sl f lv pc (.long x :: st) := fun H locs ls h hS hl => lv_l2i C.1 C.2.1 hd rfl (k H locs ls h hS hl)
theorem v_lcmp (C : Cx p s m args c cc nL own D B K) {x y : Int64} (hd : decode cc pc = .ok (.lcmp, 1))  (k : V p l e R s m args below meth c D B nL Q ce sl f lv (pc + 1) (.int (lg_cmp x y) :: st)) : V p l e R s m args below meth c D B nL Q ce sl f lv pc (.long y :: .long x :: st) := fun H locs ls h hS hl => W.lcmp C.1 C.2.1 hd (k H locs ls h hS hl)
theorem v_dup (C : Cx p s m args c cc nL own D B K) {va : Value} (hd : decode cc pc = .ok (.dup, 1)) (hva : va.category = 1) (k : V p l e R s m args below meth c D B nL Q ce sl f lv (pc + 1) (va :: va :: st)) : V p l e R s m args below meth c D B nL Q ce sl f lv pc (va :: st) := fun H locs ls h hS hl => lv_dup C.1 C.2.1 hd hva (k H locs ls h hS hl)
theorem v_pop (C : Cx p s m args c cc nL own D B K) {va : Value} (hd : decode cc pc = .ok (.pop, 1)) (hva : va.category = 1) (k : V p l e R s m args below meth c D B nL Q ce sl f lv (pc + 1) st) : V p l e R s m args below meth c D B nL Q ce sl f lv pc (va :: st) := fun H locs ls h hS hl => lv_pop C.1 C.2.1 hd hva (k H locs ls h hS hl)
theorem v_dup2_11 (C : Cx p s m args c cc nL own D B K) {va vb : Value} (hd : decode cc pc = .ok (.dup2, 1)) (hva : va.category = 1) (hvb : vb.category = 1) (k : V p l e R s m args below meth c D B nL Q ce sl f lv (pc + 1) (va :: vb :: va :: vb :: st)) : V p l e R s m args below meth c D B nL Q ce sl f lv pc (va :: vb :: st) := fun H locs ls h hS hl => lv_dup2_11 C.1 C.2.1 hd hva hvb (k H locs ls h hS hl)
theorem v_dup2_2 (C : Cx p s m args c cc nL own D B K) {va : Value} (hd : decode cc pc = .ok (.dup2, 1)) (hva : va.category = 2) (k : V p l e R s m args below meth c D B nL Q ce sl f lv (pc + 1) (va :: va :: st)) : V p l e R s m args below meth c D B nL Q ce sl f lv pc (va :: st) := fun H locs ls h hS hl => lv_dup2_2 C.1 C.2.1 hd hva (k H locs ls h hS hl)
theorem v_dup_x1 (C : Cx p s m args c cc nL own D B K) {va vb : Value} (hd : decode cc pc = .ok (.dup_x1, 1)) (hva : va.category = 1) (hvb : vb.category = 1) (k : V p l e R s m args below meth c D B nL Q ce sl f lv (pc + 1) (va :: vb :: va :: st)) : V p l e R s m args below meth c D B nL Q ce sl f lv pc (va :: vb :: st) := fun H locs ls h hS hl => lv_dup_x1 C.1 C.2.1 hd hva hvb (k H locs ls h hS hl)
theorem v_null (C : Cx p s m args c cc nL own D B K)  (hd : decode cc pc = .ok (.aconst_null, 1))  (k : V p l e R s m args below meth c D B nL Q ce sl f lv (pc + 1) (.null :: st)) : V p l e R s m args below meth c D B nL Q ce sl f lv pc st := fun H locs ls h hS hl => lv_null C.1 C.2.1 hd (k H locs ls h hS hl)
theorem v_ifnull (C : Cx p s m args c cc nL own D B K) {x : Nat} {off : Int} (hd : decode cc pc = .ok (.ifnull off, 3))  (k : V p l e R s m args below meth c D B nL Q ce sl f lv (pc + 3) st) : V p l e R s m args below meth c D B nL Q ce sl f lv pc (.ref x :: st) := fun H locs ls h hS hl => lv_ifnull C.1 C.2.1 hd (k H locs ls h hS hl)
theorem v_ifnonnullN (C : Cx p s m args c cc nL own D B K) {off : Int} (hd : decode cc pc = .ok (.ifnonnull off, 3))  (k : V p l e R s m args below meth c D B nL Q ce sl f lv (pc + 3) st) : V p l e R s m args below meth c D B nL Q ce sl f lv pc (.null :: st) := fun H locs ls h hS hl => lv_ifnonnullN C.1 C.2.1 hd (k H locs ls h hS hl)
theorem v_goto (C : Cx p s m args c cc nL own D B K) {off : Int} {tgt : Nat} (hd : decode cc pc = .ok (.goto off, 3)) (ht : (pc : Int) + off = (tgt : Int)) (k : V p l e R s m args below meth c D B nL Q ce sl f lv tgt st) : V p l e R s m args below meth c D B nL Q ce sl f lv pc st := fun H locs ls h hS hl => lv_goto C.1 C.2.1 hd ht (k H locs ls h hS hl)
theorem v_ifnullN (C : Cx p s m args c cc nL own D B K) {off : Int} {tgt : Nat} (hd : decode cc pc = .ok (.ifnull off, 3)) (ht : (pc : Int) + off = (tgt : Int)) (k : V p l e R s m args below meth c D B nL Q ce sl f lv tgt st) : V p l e R s m args below meth c D B nL Q ce sl f lv pc (.null :: st) := fun H locs ls h hS hl => lv_ifnullN C.1 C.2.1 hd ht (k H locs ls h hS hl)
theorem v_ifnonnull (C : Cx p s m args c cc nL own D B K) {x : Nat} {off : Int} {tgt : Nat} (hd : decode cc pc = .ok (.ifnonnull off, 3)) (ht : (pc : Int) + off = (tgt : Int)) (k : V p l e R s m args below meth c D B nL Q ce sl f lv tgt st) : V p l e R s m args below meth c D B nL Q ce sl f lv pc (.ref x :: st) := fun H locs ls h hS hl => lv_ifnonnull C.1 C.2.1 hd ht (k H locs ls h hS hl)
theorem v_if_eq (C : Cx p s m args c cc nL own D B K) {x : Int32} {off : Int} {tgt : Nat} (hd : decode cc pc = .ok (.ifCond .eq off, 3)) (ht : (pc : Int) + off = (tgt : Int)) (kt : x = 0 → V p l e R s m args below meth c D B nL Q ce sl f lv tgt st) (kf : ¬ x = 0 → V p l e R s m args below meth c D B nL Q ce sl f lv (pc + 3) st) : V p l e R s m args below meth c D B nL Q ce sl f lv pc (.int x :: st) := fun H locs ls h hS hl => lv_if_eq C.1 C.2.1 hd ht (fun q => kt q H locs ls h hS hl) (fun q => kf q H locs ls h hS hl)
theorem v_icmp_eq (C : Cx p s m args c cc nL own D B K) {x y : Int32} {off : Int} {tgt : Nat} (hd : decode cc pc = .ok (.if_icmp .eq off, 3)) (ht : (pc : Int) + off = (tgt : Int)) (kt : x = y → V p l e R s m args below meth c D B nL Q ce sl f lv tgt st) (kf : ¬ x = y → V p l e R s m args below meth c D B nL Q ce sl f lv (pc + 3) st) : V p l e R s m args below meth c D B nL Q ce sl f lv pc (.int y :: .int x :: st) := fun H locs ls h hS hl => lv_icmp_eq C.1 C.2.1 hd ht (fun q => kt q H locs ls h hS hl) (fun q => kf q H locs ls h hS hl)
theorem v_lc_eq (C : Cx p s m args c cc nL own D B K) {x y : Int64} {off : Int} {tgt : Nat} (hd : decode cc pc = .ok (.lcmp, 1)) (hd2 : decode cc (pc + 1) = .ok (.ifCond .eq off, 3)) (ht : ((pc + 1 : Nat) : Int) + off = (tgt : Int)) (kt : x = y → V p l e R s m args below meth c D B nL Q ce sl f lv tgt st) (kf : ¬ x = y → V p l e R s m args below meth c D B nL Q ce sl f lv (pc + 1 + 3) st) : V p l e R s m args below meth c D B nL Q ce sl f lv pc (.long y :: .long x :: st) := v_lcmp C hd (v_if_eq C hd2 ht (fun q => kt ((lg_cmp_eq x y).mp q)) (fun q => kf (fun z => q ((lg_cmp_eq x y).mpr z))))
theorem v_if_ne (C : Cx p s m args c cc nL own D B K) {x : Int32} {off : Int} {tgt : Nat} (hd : decode cc pc = .ok (.ifCond .ne off, 3)) (ht : (pc : Int) + off = (tgt : Int)) (kt : ¬ x = 0 → V p l e R s m args below meth c D B nL Q ce sl f lv tgt st) (kf : x = 0 → V p l e R s m args below meth c D B nL Q ce sl f lv (pc + 3) st) : V p l e R s m args below meth c D B nL Q ce sl f lv pc (.int x :: st) := fun H locs ls h hS hl => lv_if_ne C.1 C.2.1 hd ht (fun q => kt q H locs ls h hS hl) (fun q => kf q H locs ls h hS hl)
theorem v_icmp_ne (C : Cx p s m args c cc nL own D B K) {x y : Int32} {off : Int} {tgt : Nat} (hd : decode cc pc = .ok (.if_icmp .ne off, 3)) (ht : (pc : Int) + off = (tgt : Int)) (kt : ¬ x = y → V p l e R s m args below meth c D B nL Q ce sl f lv tgt st) (kf : x = y → V p l e R s m args below meth c D B nL Q ce sl f lv (pc + 3) st) : V p l e R s m args below meth c D B nL Q ce sl f lv pc (.int y :: .int x :: st) := fun H locs ls h hS hl => lv_icmp_ne C.1 C.2.1 hd ht (fun q => kt q H locs ls h hS hl) (fun q => kf q H locs ls h hS hl)
theorem v_lc_ne (C : Cx p s m args c cc nL own D B K) {x y : Int64} {off : Int} {tgt : Nat} (hd : decode cc pc = .ok (.lcmp, 1)) (hd2 : decode cc (pc + 1) = .ok (.ifCond .ne off, 3)) (ht : ((pc + 1 : Nat) : Int) + off = (tgt : Int)) (kt : ¬ x = y → V p l e R s m args below meth c D B nL Q ce sl f lv tgt st) (kf : x = y → V p l e R s m args below meth c D B nL Q ce sl f lv (pc + 1 + 3) st) : V p l e R s m args below meth c D B nL Q ce sl f lv pc (.long y :: .long x :: st) := v_lcmp C hd (v_if_ne C hd2 ht (fun q => kt (fun z => q ((lg_cmp_eq x y).mpr z))) (fun q => kf ((lg_cmp_eq x y).mp q)))
theorem v_if_lt (C : Cx p s m args c cc nL own D B K) {x : Int32} {off : Int} {tgt : Nat} (hd : decode cc pc = .ok (.ifCond .lt off, 3)) (ht : (pc : Int) + off = (tgt : Int)) (kt : x < 0 → V p l e R s m args below meth c D B nL Q ce sl f lv tgt st) (kf : ¬ x < 0 → V p l e R s m args below meth c D B nL Q ce sl f lv (pc + 3) st) : V p l e R s m args below meth c D B nL Q ce sl f lv pc (.int x :: st) := fun H locs ls h hS hl => lv_if_lt C.1 C.2.1 hd ht (fun q => kt q H locs ls h hS hl) (fun q => kf q H locs ls h hS hl)
theorem v_icmp_lt (C : Cx p s m args c cc nL own D B K) {x y : Int32} {off : Int} {tgt : Nat} (hd : decode cc pc = .ok (.if_icmp .lt off, 3)) (ht : (pc : Int) + off = (tgt : Int)) (kt : x < y → V p l e R s m args below meth c D B nL Q ce sl f lv tgt st) (kf : ¬ x < y → V p l e R s m args below meth c D B nL Q ce sl f lv (pc + 3) st) : V p l e R s m args below meth c D B nL Q ce sl f lv pc (.int y :: .int x :: st) := fun H locs ls h hS hl => lv_icmp_lt C.1 C.2.1 hd ht (fun q => kt q H locs ls h hS hl) (fun q => kf q H locs ls h hS hl)
theorem v_lc_lt (C : Cx p s m args c cc nL own D B K) {x y : Int64} {off : Int} {tgt : Nat} (hd : decode cc pc = .ok (.lcmp, 1)) (hd2 : decode cc (pc + 1) = .ok (.ifCond .lt off, 3)) (ht : ((pc + 1 : Nat) : Int) + off = (tgt : Int)) (kt : x < y → V p l e R s m args below meth c D B nL Q ce sl f lv tgt st) (kf : ¬ x < y → V p l e R s m args below meth c D B nL Q ce sl f lv (pc + 1 + 3) st) : V p l e R s m args below meth c D B nL Q ce sl f lv pc (.long y :: .long x :: st) := v_lcmp C hd (v_if_lt C hd2 ht (fun q => kt ((lg_cmp_lt x y).mp q)) (fun q => kf (fun z => q ((lg_cmp_lt x y).mpr z))))
theorem v_if_ge (C : Cx p s m args c cc nL own D B K) {x : Int32} {off : Int} {tgt : Nat} (hd : decode cc pc = .ok (.ifCond .ge off, 3)) (ht : (pc : Int) + off = (tgt : Int)) (kt : 0 ≤ x → V p l e R s m args below meth c D B nL Q ce sl f lv tgt st) (kf : ¬ 0 ≤ x → V p l e R s m args below meth c D B nL Q ce sl f lv (pc + 3) st) : V p l e R s m args below meth c D B nL Q ce sl f lv pc (.int x :: st) := fun H locs ls h hS hl => lv_if_ge C.1 C.2.1 hd ht (fun q => kt q H locs ls h hS hl) (fun q => kf q H locs ls h hS hl)
theorem v_icmp_ge (C : Cx p s m args c cc nL own D B K) {x y : Int32} {off : Int} {tgt : Nat} (hd : decode cc pc = .ok (.if_icmp .ge off, 3)) (ht : (pc : Int) + off = (tgt : Int)) (kt : y ≤ x → V p l e R s m args below meth c D B nL Q ce sl f lv tgt st) (kf : ¬ y ≤ x → V p l e R s m args below meth c D B nL Q ce sl f lv (pc + 3) st) : V p l e R s m args below meth c D B nL Q ce sl f lv pc (.int y :: .int x :: st) := fun H locs ls h hS hl => lv_icmp_ge C.1 C.2.1 hd ht (fun q => kt q H locs ls h hS hl) (fun q => kf q H locs ls h hS hl)
theorem v_lc_ge (C : Cx p s m args c cc nL own D B K) {x y : Int64} {off : Int} {tgt : Nat} (hd : decode cc pc = .ok (.lcmp, 1)) (hd2 : decode cc (pc + 1) = .ok (.ifCond .ge off, 3)) (ht : ((pc + 1 : Nat) : Int) + off = (tgt : Int)) (kt : y ≤ x → V p l e R s m args below meth c D B nL Q ce sl f lv tgt st) (kf : ¬ y ≤ x → V p l e R s m args below meth c D B nL Q ce sl f lv (pc + 1 + 3) st) : V p l e R s m args below meth c D B nL Q ce sl f lv pc (.long y :: .long x :: st) := v_lcmp C hd (v_if_ge C hd2 ht (fun q => kt ((lg_cmp_ge x y).mp q)) (fun q => kf (fun z => q ((lg_cmp_ge x y).mpr z))))
theorem v_if_gt (C : Cx p s m args c cc nL own D B K) {x : Int32} {off : Int} {tgt : Nat} (hd : decode cc pc = .ok (.ifCond .gt off, 3)) (ht : (pc : Int) + off = (tgt : Int)) (kt : 0 < x → V p l e R s m args below meth c D B nL Q ce sl f lv tgt st) (kf : ¬ 0 < x → V p l e R s m args below meth c D B nL Q ce sl f lv (pc + 3) st) : V p l e R s m args below meth c D B nL Q ce sl f lv pc (.int x :: st) := fun H locs ls h hS hl => lv_if_gt C.1 C.2.1 hd ht (fun q => kt q H locs ls h hS hl) (fun q => kf q H locs ls h hS hl)
theorem v_icmp_gt (C : Cx p s m args c cc nL own D B K) {x y : Int32} {off : Int} {tgt : Nat} (hd : decode cc pc = .ok (.if_icmp .gt off, 3)) (ht : (pc : Int) + off = (tgt : Int)) (kt : y < x → V p l e R s m args below meth c D B nL Q ce sl f lv tgt st) (kf : ¬ y < x → V p l e R s m args below meth c D B nL Q ce sl f lv (pc + 3) st) : V p l e R s m args below meth c D B nL Q ce sl f lv pc (.int y :: .int x :: st) := fun H locs ls h hS hl => lv_icmp_gt C.1 C.2.1 hd ht (fun q => kt q H locs ls h hS hl) (fun q => kf q H locs ls h hS hl)
theorem v_lc_gt (C : Cx p s m args c cc nL own D B K) {x y : Int64} {off : Int} {tgt : Nat} (hd : decode cc pc = .ok (.lcmp, 1)) (hd2 : decode cc (pc + 1) = .ok (.ifCond .gt off, 3)) (ht : ((pc + 1 : Nat) : Int) + off = (tgt : Int)) (kt : y < x → V p l e R s m args below meth c D B nL Q ce sl f lv tgt st) (kf : ¬ y < x → V p l e R s m args below meth c D B nL Q ce sl f lv (pc + 1 + 3) st) : V p l e R s m args below meth c D B nL Q ce sl f lv pc (.long y :: .long x :: st) := v_lcmp C hd (v_if_gt C hd2 ht (fun q => kt ((lg_cmp_gt x y).mp q)) (fun q => kf (fun z => q ((lg_cmp_gt x y).mpr z))))
theorem v_if_le (C : Cx p s m args c cc nL own D B K) {x : Int32} {off : Int} {tgt : Nat} (hd : decode cc pc = .ok (.ifCond .le off, 3)) (ht : (pc : Int) + off = (tgt : Int)) (kt : x ≤ 0 → V p l e R s m args below meth c D B nL Q ce sl f lv tgt st) (kf : ¬ x ≤ 0 → V p l e R s m args below meth c D B nL Q ce sl f lv (pc + 3) st) : V p l e R s m args below meth c D B nL Q ce sl f lv pc (.int x :: st) := fun H locs ls h hS hl => lv_if_le C.1 C.2.1 hd ht (fun q => kt q H locs ls h hS hl) (fun q => kf q H locs ls h hS hl)
theorem v_icmp_le (C : Cx p s m args c cc nL own D B K) {x y : Int32} {off : Int} {tgt : Nat} (hd : decode cc pc = .ok (.if_icmp .le off, 3)) (ht : (pc : Int) + off = (tgt : Int)) (kt : x ≤ y → V p l e R s m args below meth c D B nL Q ce sl f lv tgt st) (kf : ¬ x ≤ y → V p l e R s m args below meth c D B nL Q ce sl f lv (pc + 3) st) : V p l e R s m args below meth c D B nL Q ce sl f lv pc (.int y :: .int x :: st) := fun H locs ls h hS hl => lv_icmp_le C.1 C.2.1 hd ht (fun q => kt q H locs ls h hS hl) (fun q => kf q H locs ls h hS hl)
theorem v_lc_le (C : Cx p s m args c cc nL own D B K) {x y : Int64} {off : Int} {tgt : Nat} (hd : decode cc pc = .ok (.lcmp, 1)) (hd2 : decode cc (pc + 1) = .ok (.ifCond .le off, 3)) (ht : ((pc + 1 : Nat) : Int) + off = (tgt : Int)) (kt : x ≤ y → V p l e R s m args below meth c D B nL Q ce sl f lv tgt st) (kf : ¬ x ≤ y → V p l e R s m args below meth c D B nL Q ce sl f lv (pc + 1 + 3) st) : V p l e R s m args below meth c D B nL Q ce sl f lv pc (.long y :: .long x :: st) := v_lcmp C hd (v_if_le C hd2 ht (fun q => kt ((lg_cmp_le x y).mp q)) (fun q => kf (fun z => q ((lg_cmp_le x y).mpr z))))
theorem v_istore_n (C : Cx p s m args c cc nL own D B K) {k9 : Fin 4} {i : Nat} {x : Int32} (hd : decode cc pc = .ok (.istore_n k9, 1)) (hi : (k9 : Nat) = i) (hn : i < nL) (hc : nc lv i = true) (k : V p l e R s m args below meth c D B nL Q ce sl f ((i, some (.int x)) :: lv) (pc + 1) st) : V p l e R s m args below meth c D B nL Q ce sl f lv pc (.int x :: st) := fun H locs ls h hS hl => lv_istore_n C.1 C.2.1 hd hi hl.has hn rfl (fun ls2 h2 => k H locs ls2 h hS (lh_put1 hc h2))
theorem v_istore (C : Cx p s m args c cc nL own D B K) {i : Nat} {x : Int32} (hd : decode cc pc = .ok (.istore i, 2)) (hn : i < nL) (hc : nc lv i = true) (k : V p l e R s m args below meth c D B nL Q ce sl f ((i, some (.int x)) :: lv) (pc + 2) st) : V p l e R s m args below meth c D B nL Q ce sl f lv pc (.int x :: st) := fun H locs ls h hS hl => lv_istore C.1 C.2.1 hd hl.has hn rfl (fun ls2 h2 => k H locs ls2 h hS (lh_put1 hc h2))
theorem v_astore_n (C : Cx p s m args c cc nL own D B K) {k9 : Fin 4} {i : Nat} {x : Nat} (hd : decode cc pc = .ok (.astore_n k9, 1)) (hi : (k9 : Nat) = i) (hn : i < nL) (hc : nc lv i = true) (k : V p l e R s m args below meth c D B nL Q ce sl f ((i, some (.ref x)) :: lv) (pc + 1) st) : V p l e R s m args below meth c D B nL Q ce sl f lv pc (.ref x :: st) := fun H locs ls h hS hl => lv_astore_n C.1 C.2.1 hd hi hl.has hn rfl (fun ls2 h2 => k H locs ls2 h hS (lh_put1 hc h2))
theorem v_astore (C : Cx p s m args c cc nL own D B K) {i : Nat} {x : Nat} (hd : decode cc pc = .ok (.astore i, 2)) (hn : i < nL) (hc : nc lv i = true) (k : V p l e R s m args below meth c D B nL Q ce sl f ((i, some (.ref x)) :: lv) (pc + 2) st) : V p l e R s m args below meth c D B nL Q ce sl f lv pc (.ref x :: st) := fun H locs ls h hS hl => lv_astore C.1 C.2.1 hd hl.has hn rfl (fun ls2 h2 => k H locs ls2 h hS (lh_put1 hc h2))
theorem v_lstore_n (C : Cx p s m args c cc nL own D B K) {k9 : Fin 4} {i : Nat} {x : Int64} (hd : decode cc pc = .ok (.lstore_n k9, 1)) (hi : (k9 : Nat) = i) (hn : i + 1 < nL) (hc : nc lv i = true) (k : V p l e R s m args below meth c D B nL Q ce sl f ((i, some (.long x)) :: (i + 1, none) :: lv) (pc + 1) st) : V p l e R s m args below meth c D B nL Q ce sl f lv pc (.long x :: st) := fun H locs ls h hS hl => lv_lstore_n C.1 C.2.1 hd hi hl.has hn rfl (fun ls2 h2 => k H locs ls2 h hS (lh_put2 hc h2))
theorem v_lstore (C : Cx p s m args c cc nL own D B K) {i : Nat} {x : Int64} (hd : decode cc pc = .ok (.lstore i, 2)) (hn : i + 1 < nL) (hc : nc lv i = true) (k : V p l e R s m args below meth c D B nL Q ce sl f ((i, some (.long x)) :: (i + 1, none) :: lv) (pc + 2) st) : V p l e R s m args below meth c D B nL Q ce sl f lv pc (.long x :: st) := fun H locs ls h hS hl => lv_lstore C.1 C.2.1 hd hl.has hn rfl (fun ls2 h2 => k H locs ls2 h hS (lh_put2 hc h2))
theorem v_astore_nN (C : Cx p s m args c cc nL own D B K) {k9 : Fin 4} {i : Nat} (hd : decode cc pc = .ok (.astore_n k9, 1)) (hi : (k9 : Nat) = i) (hn : i < nL) (hc : nc lv i = true) (k : V p l e R s m args below meth c D B nL Q ce sl f ((i, some .null) :: lv) (pc + 1) st) : V p l e R s m args below meth c D B nL Q ce sl f lv pc (.null :: st) := fun H locs ls h hS hl => lv_astore_nN C.1 C.2.1 hd hi hl.has hn rfl (fun ls2 h2 => k H locs ls2 h hS (lh_put1 hc h2))
theorem v_astoreN (C : Cx p s m args c cc nL own D B K) {i : Nat} (hd : decode cc pc = .ok (.astore i, 2)) (hn : i < nL) (hc : nc lv i = true) (k : V p l e R s m args below meth c D B nL Q ce sl f ((i, some .null) :: lv) (pc + 2) st) : V p l e R s m args below meth c D B nL Q ce sl f lv pc (.null :: st) := fun H locs ls h hS hl => lv_astoreN C.1 C.2.1 hd hl.has hn rfl (fun ls2 h2 => k H locs ls2 h hS (lh_put1 hc h2))
theorem lvL_get {lv : Lv} {i : Nat} {v : Value} (h : lk lv i = some v) : ∃ k : Nat, (lvL lv)[k]? = some (i, v) := List.getElem?_of_mem (lvL_mem h)
theorem v_iinc (C : Cx p s m args c cc nL own D B K) {i : Nat} {n : Int} {x y : Int32} (hd : decode cc pc = .ok (.iinc i n, 3)) (hx : lk lv i = some (.int x)) (hy : Int32.ofInt n = y) (hn : i < nL) (hc : nc lv i = true) (k : V p l e R s m args below meth c D B nL Q ce sl f ((i, some (.int (x + y))) :: lv) (pc + 3) st) : V p l e R s m args below meth c D B nL Q ce sl f lv pc st := fun H locs ls h hS hl => by
  obtain ⟨k9, hk9⟩ := lvL_get hx
  exact lv_iinc C.1 C.2.1 hd hl.has hk9 (by rw [hy]) hn rfl (fun ls2 h2 => k H locs ls2 h hS (lh_put1 hc h2))
theorem v_ldc2 (C : Cx p s m args c cc nL own D B K) {index : Nat} {v : Int64} (hd : decode cc pc = .ok (.ldc2_w index, 3)) (hg : Cond.constantLong own index v ∈ GT) (k : V p l e R s m args below meth c D B nL Q ce sl f lv (pc + 3) (.long v :: st)) : V p l e R s m args below meth c D B nL Q ce sl f lv pc st := fun H locs ls h hS hl => lv_ldc2 C.1 C.2.1 C.2.2.2.1 (C.2.2.2.2.1 _ hg) hd (k H locs ls h hS hl)
theorem v_ldc (C : Cx p s m args c cc nL own D B K) {index : Nat} {v : Int32} (hd : decode cc pc = .ok (.ldc index, 2)) (hg : Cond.constant own index v ∈ GT) (k : V p l e R s m args below meth c D B nL Q ce sl f lv (pc + 2) (.int v :: st)) : V p l e R s m args below meth c D B nL Q ce sl f lv pc st := fun H locs ls h hS hl => lv_ldc C.1 C.2.1 C.2.2.2.1 (C.2.2.2.2.1 _ hg) hd (k H locs ls h hS hl)
theorem v_tabIn (C : Cx p s m args c cc nL own D B K) {dflt lo hi : Int} {offs : Array Int} {len : Nat} {x : Int32} {off : Int} {tgt : Nat} (hd : decode cc pc = .ok (.tableswitch dflt lo hi offs, len)) (h1 : ¬ x.toInt < lo) (h2 : ¬ hi < x.toInt) (ho : offs[(x.toInt - lo).toNat]? = some off) (ht : (pc : Int) + off = (tgt : Int)) (k : V p l e R s m args below meth c D B nL Q ce sl f lv tgt st) : V p l e R s m args below meth c D B nL Q ce sl f lv pc (.int x :: st) := fun H locs ls h hS hl => lv_tableIn C.1 C.2.1 hd h1 h2 ho ht (k H locs ls h hS hl)
theorem v_tabOut (C : Cx p s m args c cc nL own D B K) {dflt lo hi : Int} {offs : Array Int} {len : Nat} {x : Int32} {tgt : Nat} (hd : decode cc pc = .ok (.tableswitch dflt lo hi offs, len)) (h1 : x.toInt < lo ∨ hi < x.toInt) (ht : (pc : Int) + dflt = (tgt : Int)) (k : V p l e R s m args below meth c D B nL Q ce sl f lv tgt st) : V p l e R s m args below meth c D B nL Q ce sl f lv pc (.int x :: st) := fun H locs ls h hS hl => lv_tableOut C.1 C.2.1 hd h1 ht (k H locs ls h hS hl)
theorem v_get (C : Cx p s m args c cc nL own D B K) {C9 ref : String} {T : u_T} {N ci index a : Nat} {fs : List Value} {v : Value} (hd : decode cc pc = .ok (.getfield index, 3)) (k9 : Nat) (he : f a = some (.inr (ci, fs))) (hc : classes[ci]? = some (C9, T, N)) (hin : ∀ w ∈ u_ws C9 T N, w ∈ GT) (hk : k9 < N) (hg : Cond.fieldLink own index ref (T k9).2.1 (T k9).2.2.1 ∈ GT) (hsame : ∀ x, s.fieldFound? (T k9).1 (T k9).2.1 (T k9).2.2.1 = some x → s.fieldFound? ref (T k9).2.1 (T k9).2.2.1 = some x) (hv : fs[k9]? = some v) (k : V p l e R s m args below meth c D B nL Q ce sl f lv (pc + 3) (v :: st)) : V p l e R s m args below meth c D B nL Q ce sl f lv pc (.ref a :: st) := fun H locs ls h hS hl => va_get (D := D) (ci := ci) (v := v) (C := C9) (T := T) (N := N) C.1 C.2.1 C.2.2.2.2.1 hin C.2.2.2.1 C.2.2.2.2.2.1 (h.one he) 0 rfl hc k9 hk (C.2.2.2.2.1 _ hg) hsame hv hd (k H locs ls h hS hl)
theorem v_put (C : Cx p s m args c cc nL own D B K) {C9 ref : String} {T : u_T} {N ci index a : Nat} {fs : List Value} {v : Value} {ty : FieldType} (hd : decode cc pc = .ok (.putfield index, 3)) (k9 : Nat) (he : f a = some (.inr (ci, fs))) (hc : classes[ci]? = some (C9, T, N)) (hin : ∀ w ∈ u_ws C9 T N, w ∈ GT) (ty0 : Nat → FieldType) (hty : ∀ k, k < N → parseFieldDescriptor (T k).2.2.1 = some (ty0 k)) (hnm : ∀ a, a < N → ∀ b, b < N → a ≠ b → (T a).2.1 ≠ (T b).2.1) (hk : k9 < N) (hg : Cond.fieldLink own index ref (T k9).2.1 (T k9).2.2.1 ∈ GT) (hsame : ∀ x, s.fieldFound? (T k9).1 (T k9).2.1 (T k9).2.2.1 = some x → s.fieldFound? ref (T k9).2.1 (T k9).2.2.1 = some x) (hfin : (T k9).2.2.2 = false) (hdd : parseFieldDescriptor (T k9).2.2.1 = some ty) (hn : narrow ty v = v) (hfit : fits ty v = true) (hl9 : k9 < fs.length) (k : V p l e R s m args below meth c D B nL Q ce sl (va_up f a (some (.inr (ci, fs.set k9 v)))) lv (pc + 3) st) : V p l e R s m args below meth c D B nL Q ce sl f lv pc (v :: .ref a :: st) := fun H locs ls h hS hl => by
  obtain ⟨ws, q0, hP, hD, hq, hset⟩ := h.place he
  exact va_put (D := D) (ci := ci) (v := v) (ty := ty) (C := C9) (T := T) (N := N) C.1 C.2.1 C.2.2.2.2.1 hin ty0 hty hnm C.2.2.2.1 C.2.2.2.2.2.1 hP hD hS q0 hq hc k9 hk (C.2.2.2.2.1 _ hg) hsame hfin hdd hn hfit hl9 hd (fun H1 locs1 hP1 hD1 hS1 => k H1 locs1 ls (hset _ H1 hP1 hD1) hS1 hl)
theorem v_putF (C : Cx p s m args c cc nL own D B K) {C9 ref : String} {T : u_T} {N ci index a : Nat} {fs : List Value} {v : Value} {ty : FieldType} (hd : decode cc pc = .ok (.putfield index, 3)) (k9 : Nat) (he : f a = some (.inr (ci, fs))) (hc : classes[ci]? = some (C9, T, N)) (hin : ∀ w ∈ u_ws C9 T N, w ∈ GT) (ty0 : Nat → FieldType) (hty : ∀ k, k < N → parseFieldDescriptor (T k).2.2.1 = some (ty0 k)) (hnm : ∀ a, a < N → ∀ b, b < N → a ≠ b → (T a).2.1 ≠ (T b).2.1) (hk : k9 < N) (hg : Cond.fieldLink own index ref (T k9).2.1 (T k9).2.2.1 ∈ GT) (hsame : ∀ x, s.fieldFound? (T k9).1 (T k9).2.1 (T k9).2.2.1 = some x → s.fieldFound? ref (T k9).2.1 (T k9).2.2.1 = some x) (hfin : (T k9).2.2.2 = true) (hin2 : meth.name = "<init>") (hdecl : (T k9).1 = own) (hdd : parseFieldDescriptor (T k9).2.2.1 = some ty) (hn : narrow ty v = v) (hfit : fits ty v = true) (hl9 : k9 < fs.length) (k : V p l e R s m args below meth c D B nL Q ce sl (va_up f a (some (.inr (ci, fs.set k9 v)))) lv (pc + 3) st) : V p l e R s m args below meth c D B nL Q ce sl f lv pc (v :: .ref a :: st) := fun H locs ls h hS hl => by
  obtain ⟨ws, q0, hP, hD, hq, hset⟩ := h.place he
  exact va_putF (D := D) (ci := ci) (v := v) (ty := ty) (C := C9) (T := T) (N := N) C.1 C.2.1 C.2.2.2.2.1 hin ty0 hty hnm C.2.2.2.1 C.2.2.2.2.2.1 hP hD hS q0 hq hc k9 hk (C.2.2.2.2.1 _ hg) hsame hfin hin2 hdecl hdd hn hfit hl9 hd (fun H1 locs1 hP1 hD1 hS1 => k H1 locs1 ls (hset _ H1 hP1 hD1) hS1 hl)
theorem v_iald (C : Cx p s m args c cc nL own D B K) {a n : Nat} {g : Nat → Int32} {i : Int32} (hd : decode cc pc = .ok (.iaload, 1)) (he : f a = some (.inl (K 0, n, .inl g))) (hi : vp_in i n) (k : V p l e R s m args below meth c D B nL Q ce sl f lv (pc + 1) (.int (g i.toNatClampNeg) :: st)) : V p l e R s m args below meth c D B nL Q ce sl f lv pc (.int i :: .ref a :: st) := fun H locs ls h hS hl => va_iald C.1 C.2.1 C.2.2.2.2.2.1 (h.one he) 0 0 rfl rfl hi hd (k H locs ls h hS hl)
theorem v_lald (C : Cx p s m args c cc nL own D B K) {a n : Nat} {g : Nat → Int64} {i : Int32} (hd : decode cc pc = .ok (.laload, 1)) (he : f a = some (.inl (K 1, n, .inr (.inl g)))) (hi : vp_in i n) (k : V p l e R s m args below meth c D B nL Q ce sl f lv (pc + 1) (.long (g i.toNatClampNeg) :: st)) : V p l e R s m args below meth c D B nL Q ce sl f lv pc (.int i :: .ref a :: st) := fun H locs ls h hS hl => va_lald C.1 C.2.1 C.2.2.2.2.2.1 (h.one he) 0 1 rfl rfl hi hd (k H locs ls h hS hl)
theorem v_zald (C : Cx p s m args c cc nL own D B K) {a n : Nat} {g : Nat → Int32} {i : Int32} (hd : decode cc pc = .ok (.baload, 1)) (he : f a = some (.inl (K 2, n, .inl g))) (hi : vp_in i n) (k : V p l e R s m args below meth c D B nL Q ce sl f lv (pc + 1) (.int (g i.toNatClampNeg) :: st)) : V p l e R s m args below meth c D B nL Q ce sl f lv pc (.int i :: .ref a :: st) := fun H locs ls h hS hl => va_zald C.1 C.2.1 C.2.2.2.2.2.1 (h.one he) 0 2 rfl rfl hi hd (k H locs ls h hS hl)
theorem v_iast (C : Cx p s m args c cc nL own D B K) {a n : Nat} {g : Nat → Int32} {i : Int32} {x : Int32} (hd : decode cc pc = .ok (.iastore, 1)) (he : f a = some (.inl (K 0, n, .inl g))) (hi : vp_in i n) (k : V p l e R s m args below meth c D B nL Q ce sl (va_up f a (some (.inl (K 0, n, .inl (upd g i.toNatClampNeg x))))) lv (pc + 1) st) : V p l e R s m args below meth c D B nL Q ce sl f lv pc (.int x :: .int i :: .ref a :: st) := fun H locs ls h hS hl => by
  obtain ⟨ws, q0, hP, hD, hq, hset⟩ := h.place he
  exact va_iast C.1 C.2.1 C.2.2.2.2.2.1 hP hD hS q0 0 hq rfl hi hd (fun H1 locs1 hP1 hD1 hS1 => k H1 locs1 ls (hset _ H1 hP1 hD1) hS1 hl)
theorem v_last (C : Cx p s m args c cc nL own D B K) {a n : Nat} {g : Nat → Int64} {i : Int32} {x : Int64} (hd : decode cc pc = .ok (.lastore, 1)) (he : f a = some (.inl (K 1, n, .inr (.inl g)))) (hi : vp_in i n) (k : V p l e R s m args below meth c D B nL Q ce sl (va_up f a (some (.inl (K 1, n, .inr (.inl (vp_updL g i.toNatClampNeg x)))))) lv (pc + 1) st) : V p l e R s m args below meth c D B nL Q ce sl f lv pc (.long x :: .int i :: .ref a :: st) := fun H locs ls h hS hl => by
  obtain ⟨ws, q0, hP, hD, hq, hset⟩ := h.place he
  exact va_last C.1 C.2.1 C.2.2.2.2.2.1 hP hD hS q0 1 hq rfl hi hd (fun H1 locs1 hP1 hD1 hS1 => k H1 locs1 ls (hset _ H1 hP1 hD1) hS1 hl)
theorem v_zast (C : Cx p s m args c cc nL own D B K) {a n : Nat} {g : Nat → Int32} {i : Int32} {x : Int32} (hd : decode cc pc = .ok (.bastore, 1)) (he : f a = some (.inl (K 2, n, .inl g))) (hi : vp_in i n) (k : V p l e R s m args below meth c D B nL Q ce sl (va_up f a (some (.inl (K 2, n, .inl (upd g i.toNatClampNeg (vp_nar .boolean x)))))) lv (pc + 1) st) : V p l e R s m args below meth c D B nL Q ce sl f lv pc (.int x :: .int i :: .ref a :: st) := fun H locs ls h hS hl => by
  obtain ⟨ws, q0, hP, hD, hq, hset⟩ := h.place he
  exact va_zast C.1 C.2.1 C.2.2.2.2.2.1 hP hD hS q0 2 hq rfl hi hd (fun H1 locs1 hP1 hD1 hS1 => k H1 locs1 ls (hset _ H1 hP1 hD1) hS1 hl)
theorem v_aldq (C : Cx p s m args c cc nL own D B K) {a n : Nat} {g : Nat → Option Nat} {i : Int32} (hd : decode cc pc = .ok (.aaload, 1)) (he : f a = some (.inl (K 3, n, .inr (.inr (.inr (.inr g)))))) (hi : vp_in i n) (k : V p l e R s m args below meth c D B nL Q ce sl f lv (pc + 1) (va_rf (g i.toNatClampNeg) :: st)) : V p l e R s m args below meth c D B nL Q ce sl f lv pc (.int i :: .ref a :: st) := fun H locs ls h hS hl => va_aldq (C := RX5) C.1 C.2.1 C.2.2.2.2.2.1 (h.one he) 0 3 rfl rfl hi hd (k H locs ls h hS hl)
theorem v_alda (C : Cx p s m args c cc nL own D B K) {a n : Nat} {g : Nat → Option Nat} {i : Int32} (hd : decode cc pc = .ok (.aaload, 1)) (he : f a = some (.inl (K 4, n, .inr (.inr (.inr (.inr g)))))) (hi : vp_in i n) (k : V p l e R s m args below meth c D B nL Q ce sl f lv (pc + 1) (va_rf (g i.toNatClampNeg) :: st)) : V p l e R s m args below meth c D B nL Q ce sl f lv pc (.int i :: .ref a :: st) := fun H locs ls h hS hl => by
  have hlt : i.toNatClampNeg < n := Nat.not_le.mp fun q => hi (Or.inr q)
  exact W.aald (v := va_rf (g i.toNatClampNeg)) (ty := .array .int) C.1 C.2.1 (h.one he 0 _ rfl) ((C.2.2.2.2.2.1.2 4 _ rfl).1 n (fun j => va_rf (g j))) rfl (fun q => by cases q) (by show ¬ (i < 0 ∨ (arrV _ _ _).slots.size ≤ _); rw [arrV_size]; exact hi) (by show (arrV _ _ _).slots[_]? = _; rw [arrV_read _ _ hlt]) rfl rfl hd (k H locs ls h hS hl)
theorem v_alen (C : Cx p s m args c cc nL own D B K) {a : Nat} {cA : ClassId} {x : vp_A} {ty : FieldType} {v : Int32} (hd : decode cc pc = .ok (.arraylength, 1)) (t0 : Nat) (he : f a = some (.inl (cA, x))) (ht : (tyL K)[t0]? = some (cA, ty)) (hv : Int32.ofNat x.1 = v) (k : V p l e R s m args below meth c D B nL Q ce sl f lv (pc + 1) (.int v :: st)) : V p l e R s m args below meth c D B nL Q ce sl f lv pc (.ref a :: st) := fun H locs ls h hS hl => va_alen C.1 C.2.1 C.2.2.2.2.2.1 (h.one he) 0 t0 rfl ht hv hd (k H locs ls h hS hl)
theorem v_widen {ce2 sl2 : Nat} (h1 : ce ≤ ce2) (h2 : sl ≤ sl2) (k : V p l e R s m args below meth c D B nL Q ce2 sl2 f lv pc st) : V p l e R s m args below meth c D B nL Q ce sl f lv pc st := fun H locs ls h hS hl => W.widen h1 h2 (k H locs ls h hS hl)
theorem v_eq {pc2 : Nat} (h1 : pc2 = pc) (k : V p l e R s m args below meth c D B nL Q ce sl f lv pc2 st) : V p l e R s m args below meth c D B nL Q ce sl f lv pc st := by subst h1; exact k
theorem v_loc (l9 : List (Nat × Value)) (hs : lsub lv l9) (k : V p l e R s m args below meth c D B nL Q ce sl f (lof l9) pc st) : V p l e R s m args below meth c D B nL Q ce sl f lv pc st := fun H locs ls h hS hl => k H locs ls h hS (hl.sub hs)
theorem v_top {v : Value} (k : ∀ w, w = v → V p l e R s m args below meth c D B nL Q ce sl f lv pc (w :: st)) : V p l e R s m args below meth c D B nL Q ce sl f lv pc (v :: st) := k v rfl
theorem v_topi {x : Int32} (k : ∀ y : Int32, y = x → V p l e R s m args below meth c D B nL Q ce sl f lv pc (.int y :: st)) : V p l e R s m args below meth c D B nL Q ce sl f lv pc (.int x :: st) := k x rfl
theorem v_topl {x : Int64} (k : ∀ y : Int64, y = x → V p l e R s m args below meth c D B nL Q ce sl f lv pc (.long y :: st)) : V p l e R s m args below meth c D B nL Q ce sl f lv pc (.long x :: st) := k x rfl
theorem v_ri {x y : Int32} (e9 : x = y) (k : V p l e R s m args below meth c D B nL Q ce sl f lv pc (.int y :: st)) : V p l e R s m args below meth c D B nL Q ce sl f lv pc (.int x :: st) := by subst e9; exact k
theorem v_rl {x y : Int64} (e9 : x = y) (k : V p l e R s m args below meth c D B nL Q ce sl f lv pc (.long y :: st)) : V p l e R s m args below meth c D B nL Q ce sl f lv pc (.long x :: st) := by subst e9; exact k
theorem v_wf {f2 : St} (hs : ∀ a x, f2 a = some x → f a = some x) (k : V p l e R s m args below meth c D B nL Q ce sl f2 lv pc st) : V p l e R s m args below meth c D B nL Q ce sl f lv pc st := fun H locs ls h hS hl => k H locs ls (h.sub hs) hS hl
theorem v_apart (k : (∀ a x, f a = some x → B ≤ a) → V p l e R s m args below meth c D B nL Q ce sl f lv pc st) : V p l e R s m args below meth c D B nL Q ce sl f lv pc st := fun H locs ls h hS hl => k (fun a x hx => h.ge hx) H locs ls h hS hl
end VL
end
section
/-! contracts, returns and calls over the layer -/
theorem lk_lof {l : List (Nat × Value)} {i : Nat} {v : Value} (h : lk (lof l) i = some v) : (i, v) ∈ l := by
  induction l with
  | nil => cases h
  | cons q t ih =>
    unfold lof at h
    rw [List.map_cons] at h
    unfold lk at h
    cases hb : Nat.beq q.1 i with
    | true =>
      simp only [hb, cond_true] at h
      cases h
      rw [← Nat.eq_of_beq_eq_true hb]
      exact List.mem_cons_self
    | false =>
      simp only [hb, cond_false] at h
      exact List.mem_cons_of_mem _ (ih h)
theorem lh_of {ls : Array Slot} {nL : Nat} {l : List (Nat × Value)} (h : lv_has ls nL l) : lh ls nL (lof l) := ⟨h.1, h.2.1, fun _ _ hk => h.2.2 _ (lk_lof hk)⟩
abbrev HB (D : va_G) (B : Nat) : St → State → Prop := fun f9 t => hw D B f9 t.heap
abbrev AB (B : Nat) : Nat → Prop := fun q => B ≤ q
abbrev Qi_ (D : va_G) (B : Nat) (post : Int32 → St → Prop) : Array Value → State → Outcome → State → Prop := va_Qi post (HB D B) (AB B)
abbrev Ql_ (D : va_G) (B : Nat) (post : Int64 → St → Prop) : Array Value → State → Outcome → State → Prop := va_Ql post (HB D B) (AB B)
abbrev Qv_ (D : va_G) (B : Nat) (post : St → Prop) : Array Value → State → Outcome → State → Prop := va_Qv post (HB D B) (AB B)
abbrev Qq_ (D : va_G) (B : Nat) (post : Option Nat → St → Prop) : Array Value → State → Outcome → State → Prop := va_Qq post (HB D B) (AB B)
abbrev Kc (l : Launch) (D : va_G) (B : Nat) (K : Nat → ClassId) (y : MethodName) (cc : ByteArray) (n : Nat) (ret : Option FieldType) (lvl mc ms : Nat) (av : List Value) (f : St) (Qc : Array Value → State → Outcome → State → Prop) : Prop := Met l y (ws_ y cc n ret) (RM lvl mc ms) (va_Pc av (Pre D B K f)) Qc mc ms (AB B)
section VC
variable {p : Program} {l : Launch} {e : Env} {R : Room} {s : State} {m : MethodId} {args : Array Value} {below : List Frame} {meth : Method} {c : Code} {D : va_G} {B nL : Nat} {Q : State → Prop} {ce sl : Nat} {f : St} {lv : Lv} {pc : Nat} {st : List Value} {cc : ByteArray} {own : String} {K : Nat → ClassId}
theorem v_met {y : MethodName} {ret : Option FieldType} {rm : Room} {Qc : Array Value → State → Outcome → State → Prop} {mc ms : Nat} {av : List Value} (lv0 : List (Nat × Value)) (hy : plainName y.cls = true) (hlen : (lg_sl av).length ≤ nL) (hlv : lv_args 0 av = lv0)
    (body : ∀ (p : Program) (e : Env) (s : State) (m : MethodId) (args : Array Value) (below : List Frame) (meth : Method) (c : Code), Cx p s m args c cc nL y.cls D B K → meth.sig.returnType = ret → meth.locks = false → meth.name = y.name → V p l e rm s m args below meth c D B nL (MQ below Qc args s mc ms (AB B)) 0 0 f (lof lv0) 0 []) :
    Met l y (ws_ y cc nL ret) rm (va_Pc av (Pre D B K f)) Qc mc ms (AB B) := by
  refine Met.ofW (cc := cc) (maxL := nL) (ret := ret) hy rfl ?_
  intro p e s m args below meth c s₁ Bd hml hv
  obtain ⟨rfl, hP, hK, hB, hN⟩ := hv
  have hts := atoms_spec (ws := ws_ y cc nL ret) Bd.pre
  have hown : s.vm.findClass y.cls = some m.cls := findClass_of_methodNamed Bd.named
  have C : Cx p s m av.toArray c cc nL y.cls D B K := ⟨Bd.exec, Bd.bytes, hml, hown, fun w hw => hts w (List.mem_cons_of_mem _ hw), hK, hB, hN⟩
  have hl := lv_entry av (n := nL) hlen
  rw [lg_entry_eq]
  generalize (lg_sl av ++ List.replicate (nL - (lg_sl av).length) Slot.unset).toArray = ls at hl ⊢
  rw [hlv] at hl
  exact body p e s m _ below meth c C Bd.returns Bd.notSynchronized (name_of_methodNamed Bd.named Bd.method).1 s.heap [] ls hP va_S.rf (lh_of hl)
theorem pre_at (C : Cx p s m args c cc nL own D B K) {H : Heap} {locs : List Loc} (h : hw D B f H) (hS : va_S (AB B) s.heap H locs) {U : State} (hU : U.heap = H) (hW : s.WarmedH U.vm) : Pre D B K f U :=
  ⟨by rw [hU]; exact h, va_K.moved hW.alike C.2.2.2.2.2.1, by rw [hU]; exact Nat.le_trans C.2.2.2.2.2.2.1 hS.1, NB.warm hW C.2.2.2.2.2.2.2⟩
theorem recv_at (C : Cx p s m args c cc nL own D B K) {H : Heap} (h : hw D B f H) {a ci : Nat} {fs : List Value} {q : vw_C} (he : f a = some (.inr (ci, fs))) (hc : classes[ci]? = some q) : ∃ cell : Cell, H[a]? = some cell ∧ cell.vm.isStatics = false ∧ s.vm.findClass q.1 = some cell.cls :=
  va_recv C.2.2.2.2.2.1 (h.one he) hc (q0 := 0) rfl

theorem v_iret (C : Cx p s m args c cc nL own D B K) {post : Int32 → St → Prop} {x : Int32} {mc ms : Nat} (hr : meth.sig.returnType = some .int) (hlk : meth.locks = false) (hd : decode cc pc = .ok (.ireturn, 1)) (hc : ce ≤ mc) (hs : sl ≤ ms) (hp : post x f) : V p l e R s m args below meth c D B nL (MQ below (Qi_ D B post) args s mc ms (AB B)) ce sl f lv pc [.int x] := fun H locs ls h hS hl => W.widen hc hs (W.iret C.1 C.2.1 hr (fun t ht hW => ⟨⟨x, f, rfl, hp, by show hw D B f t.heap; rw [ht]; exact h⟩, hS.F ht⟩) hS.2.2 hd hlk)
theorem v_iretX (C : Cx p s m args c cc nL own D B K) {post : Int32 → St → Prop} {XC : String → State → State → Prop} {x : Int32} {mc ms : Nat} (hr : meth.sig.returnType = some .int) (hlk : meth.locks = false) (hd : decode cc pc = .ok (.ireturn, 1)) (hc : ce ≤ mc) (hs : sl ≤ ms) (hp : post x f) : V p l e R s m args below meth c D B nL (vx_MQ below (Qi_ D B post) XC args s mc ms (AB B)) ce sl f lv pc [.int x] := fun H locs ls h hS hl => vx_ret (W.widen hc hs (W.iret C.1 C.2.1 hr (fun t ht hW => ⟨⟨x, f, rfl, hp, by show hw D B f t.heap; rw [ht]; exact h⟩, hS.F ht⟩) hS.2.2 hd hlk))
theorem v_zret (C : Cx p s m args c cc nL own D B K) {post : Int32 → St → Prop} {x : Int32} {mc ms : Nat} (hr : meth.sig.returnType = some .boolean) (hlk : meth.locks = false) (hd : decode cc pc = .ok (.ireturn, 1)) (hn : narrow .boolean (.int x) = .int x) (hc : ce ≤ mc) (hs : sl ≤ ms) (hp : post x f) : V p l e R s m args below meth c D B nL (MQ below (Qi_ D B post) args s mc ms (AB B)) ce sl f lv pc [.int x] := fun H locs ls h hS hl => W.widen hc hs (W.zret C.1 C.2.1 hr hn (fun t ht hW => ⟨⟨x, f, rfl, hp, by show hw D B f t.heap; rw [ht]; exact h⟩, hS.F ht⟩) hS.2.2 hd hlk)
theorem v_zretX (C : Cx p s m args c cc nL own D B K) {post : Int32 → St → Prop} {XC : String → State → State → Prop} {x : Int32} {mc ms : Nat} (hr : meth.sig.returnType = some .boolean) (hlk : meth.locks = false) (hd : decode cc pc = .ok (.ireturn, 1)) (hn : narrow .boolean (.int x) = .int x) (hc : ce ≤ mc) (hs : sl ≤ ms) (hp : post x f) : V p l e R s m args below meth c D B nL (vx_MQ below (Qi_ D B post) XC args s mc ms (AB B)) ce sl f lv pc [.int x] := fun H locs ls h hS hl => vx_ret (W.widen hc hs (W.zret C.1 C.2.1 hr hn (fun t ht hW => ⟨⟨x, f, rfl, hp, by show hw D B f t.heap; rw [ht]; exact h⟩, hS.F ht⟩) hS.2.2 hd hlk))
theorem v_lret (C : Cx p s m args c cc nL own D B K) {post : Int64 → St → Prop} {x : Int64} {mc ms : Nat} (hr : meth.sig.returnType = some .long) (hlk : meth.locks = false) (hd : decode cc pc = .ok (.lreturn, 1)) (hc : ce ≤ mc) (hs : sl ≤ ms) (hp : post x f) : V p l e R s m args below meth c D B nL (MQ below (Ql_ D B post) args s mc ms (AB B)) ce sl f lv pc [.long x] := fun H locs ls h hS hl => W.widen hc hs (W.lret C.1 C.2.1 hr (fun t ht hW => ⟨⟨x, f, rfl, hp, by show hw D B f t.heap; rw [ht]; exact h⟩, hS.F ht⟩) hS.2.2 hd hlk)
theorem v_lretX (C : Cx p s m args c cc nL own D B K) {post : Int64 → St → Prop} {XC : String → State → State → Prop} {x : Int64} {mc ms : Nat} (hr : meth.sig.returnType = some .long) (hlk : meth.locks = false) (hd : decode cc pc = .ok (.lreturn, 1)) (hc : ce ≤ mc) (hs : sl ≤ ms) (hp : post x f) : V p l e R s m args below meth c D B nL (vx_MQ below (Ql_ D B post) XC args s mc ms (AB B)) ce sl f lv pc [.long x] := fun H locs ls h hS hl => vx_ret (W.widen hc hs (W.lret C.1 C.2.1 hr (fun t ht hW => ⟨⟨x, f, rfl, hp, by show hw D B f t.heap; rw [ht]; exact h⟩, hS.F ht⟩) hS.2.2 hd hlk))
theorem v_vret (C : Cx p s m args c cc nL own D B K) {post : St → Prop} {mc ms : Nat} (hr : meth.sig.returnType = none) (hlk : meth.locks = false) (hd : decode cc pc = .ok (.return_, 1)) (hc : ce ≤ mc) (hs : sl ≤ ms) (hp : post f) : V p l e R s m args below meth c D B nL (MQ below (Qv_ D B post) args s mc ms (AB B)) ce sl f lv pc [] := fun H locs ls h hS hl => W.widen hc hs (W.vret C.1 C.2.1 hr (fun t ht hW => ⟨⟨f, rfl, hp, by show hw D B f t.heap; rw [ht]; exact h⟩, hS.F ht⟩) hS.2.2 hd hlk)
theorem v_vretX (C : Cx p s m args c cc nL own D B K) {post : St → Prop} {XC : String → State → State → Prop} {mc ms : Nat} (hr : meth.sig.returnType = none) (hlk : meth.locks = false) (hd : decode cc pc = .ok (.return_, 1)) (hc : ce ≤ mc) (hs : sl ≤ ms) (hp : post f) : V p l e R s m args below meth c D B nL (vx_MQ below (Qv_ D B post) XC args s mc ms (AB B)) ce sl f lv pc [] := fun H locs ls h hS hl => vx_ret (W.widen hc hs (W.vret C.1 C.2.1 hr (fun t ht hW => ⟨⟨f, rfl, hp, by show hw D B f t.heap; rw [ht]; exact h⟩, hS.F ht⟩) hS.2.2 hd hlk))
theorem v_aret (C : Cx p s m args c cc nL own D B K) {post : Option Nat → St → Prop} {x : Option Nat} {rt : String} {mc ms : Nat} (hr : meth.sig.returnType = some (.object rt)) (hlk : meth.locks = false) (hd : decode cc pc = .ok (.areturn, 1)) (hc : ce ≤ mc) (hs : sl ≤ ms) (hp : post x f) : V p l e R s m args below meth c D B nL (MQ below (Qq_ D B post) args s mc ms (AB B)) ce sl f lv pc [va_rf x] := fun H locs ls h hS hl => W.widen hc hs (W.aret C.1 C.2.1 hr (Or.inl ⟨_, rfl⟩) (va_rf_or x) (fun t ht hW => ⟨⟨x, f, rfl, hp, by show hw D B f t.heap; rw [ht]; exact h⟩, hS.F ht⟩) hS.2.2 hd hlk)
theorem v_aretX (C : Cx p s m args c cc nL own D B K) {post : Option Nat → St → Prop} {XC : String → State → State → Prop} {x : Option Nat} {rt : String} {mc ms : Nat} (hr : meth.sig.returnType = some (.object rt)) (hlk : meth.locks = false) (hd : decode cc pc = .ok (.areturn, 1)) (hc : ce ≤ mc) (hs : sl ≤ ms) (hp : post x f) : V p l e R s m args below meth c D B nL (vx_MQ below (Qq_ D B post) XC args s mc ms (AB B)) ce sl f lv pc [va_rf x] := fun H locs ls h hS hl => vx_ret (W.widen hc hs (W.aret C.1 C.2.1 hr (Or.inl ⟨_, rfl⟩) (va_rf_or x) (fun t ht hW => ⟨⟨x, f, rfl, hp, by show hw D B f t.heap; rw [ht]; exact h⟩, hS.F ht⟩) hS.2.2 hd hlk))
theorem r_S (C : Cx p s m args c cc nL own D B K) {y : MethodName} {bc : ByteArray} {n9 index lvl mc ms : Nat} {ret : Option FieldType} {Qc : Array Value → State → Outcome → State → Prop} {As rest : List Value} (hM : Kc l D B K y bc n9 ret lvl mc ms As f Qc) (hd : decode cc pc = .ok (.invokestatic index, 3)) (g1 : Cond.methodLink own index y ∈ GT) (g2 : Cond.static y ∈ GT) (g3 : Cond.initialized y.cls ∈ GT) (g4 : Cond.code y bc n9 ret ∈ GT) (hR : RN R (lvl + 1)) (hml : n9 ≤ 21) (hst : st = As.reverse ++ rest) (hdn : y.cls ≠ "java/lang/invoke/MethodHandle" ∧ y.cls ≠ "java/lang/invoke/VarHandle" ∧ (parseMethodDescriptor y.desc).map (fun d => d.parameters.length) = some As.length)  (hrest : (rest.map fun v => v.category).sum ≤ 8) (hf : ce + mc ≤ R.cells ∧ sl + ms ≤ R.slots) : ∀ (H : Heap) (locs : List Loc) (ls : Array Slot), hw D B f H → va_S (AB B) s.heap H locs → lh ls nL lv → va_Run p l e R s m args below meth c H locs ce sl mc ms (F0 m pc ls st) rest (Qc As.toArray) (AB B) := by
  intro H locs ls h hS hl
  have hT : GoodIn GT (va_wsS own index y (ws_ y bc n9 ret)) := fun w hw => by
    unfold va_wsS at hw
    rcases List.mem_append.mp hw with q | q
    · simp only [List.mem_cons, List.not_mem_nil, or_false] at q
      rcases q with rfl | rfl | rfl
      · exact gt_in g1
      · exact gt_in g2
      · exact gt_in g3
    · exact gt_ws g4 w q
  exact va_runS (As := As) (rest := rest) ⟨C.1, C.2.1, C.2.2.1, C.2.2.2.1, C.2.2.2.2.1⟩ hM (va_cwS As.length C.2.2.2.2.1 hT rfl rfl rfl hdn ⟨hR.1, by have h9 := hR.2; show 8 + (n9 + 11) + 40 * lvl ≤ R.locals; omega⟩) ⟨pre_blind, fun U hU hW => ⟨rfl, pre_at C h hS hU hW⟩⟩ rfl rfl hl.1 hst (lv_room hrest) hd hf
theorem r_SN (C : Cx p s m args c cc nL own D B K) {y : MethodName} {bc : ByteArray} {n9 index lvl mc ms : Nat} {ret : Option FieldType} {Qc : Array Value → State → Outcome → State → Prop} {As rest : List Value} {host : String} (hM : Kc l D B K y bc n9 ret lvl mc ms As f Qc) (hd : decode cc pc = .ok (.invokestatic index, 3)) (g1 : Cond.methodLinkNest own index y host ∈ nbL) (g2 : Cond.static y ∈ GT) (g3 : Cond.initialized y.cls ∈ GT) (g4 : Cond.code y bc n9 ret ∈ GT) (hR : RN R (lvl + 1)) (hml : n9 ≤ 21) (hst : st = As.reverse ++ rest) (hdn : y.cls ≠ "java/lang/invoke/MethodHandle" ∧ y.cls ≠ "java/lang/invoke/VarHandle" ∧ (parseMethodDescriptor y.desc).map (fun d => d.parameters.length) = some As.length) (hrest : (rest.map fun v => v.category).sum ≤ 8) (hf : ce + mc ≤ R.cells ∧ sl + ms ≤ R.slots) : ∀ (H : Heap) (locs : List Loc) (ls : Array Slot), hw D B f H → va_S (AB B) s.heap H locs → lh ls nL lv → va_Run p l e R s m args below meth c H locs ce sl mc ms (F0 m pc ls st) rest (Qc As.toArray) (AB B) := by
  intro H locs ls h hS hl
  exact va_runSN (As := As) (rest := rest) ⟨C.1, C.2.1, C.2.2.1, C.2.2.2.1, C.2.2.2.2.1⟩ hM ⟨va_cnB As.length C.2.2.2.2.1 (gt_ws g4) rfl rfl rfl (C.2.2.2.2.2.2.2.1 _ g1) (C.2.2.2.2.1 _ g3) hdn ⟨hR.1, by have h9 := hR.2; show 8 + (n9 + 11) + 40 * lvl ≤ R.locals; omega⟩, C.2.2.2.2.1 _ g2, trivial⟩ ⟨pre_blind, fun U hU hW => ⟨rfl, pre_at C h hS hU hW⟩⟩ rfl rfl hl.1 hst (lv_room hrest) hd hf
theorem r_V (C : Cx p s m args c cc nL own D B K) {y : MethodName} {bc : ByteArray} {n9 index lvl mc ms : Nat} {ret : Option FieldType} {Qc : Array Value → State → Outcome → State → Prop} {As rest : List Value} {b ci N9 : Nat} {fs : List Value} {T9 : u_T} {C9 : String} (hM : Kc l D B K y bc n9 ret lvl mc ms (.ref b :: As) f Qc) (hd : decode cc pc = .ok (.invokevirtual index, 3)) (he : f b = some (.inr (ci, fs))) (hc : classes[ci]? = some (C9, T9, N9)) (g1 : Cond.methodLink own index y ∈ GT) (g2 : Cond.instanceMethod y ∈ GT) (g5 : Cond.selects C9 y y ∈ GT) (g3 : Cond.initialized C9 ∈ GT) (g4 : Cond.code y bc n9 ret ∈ GT) (hR : RN R (lvl + 1)) (hml : n9 ≤ 21) (hcy : y.cls = C9) (hst : st = As.reverse ++ .ref b :: rest) (hdn : y.cls ≠ "java/lang/invoke/MethodHandle" ∧ y.cls ≠ "java/lang/invoke/VarHandle" ∧ (parseMethodDescriptor y.desc).map (fun d => d.parameters.length) = some As.length) (hrest : (rest.map fun v => v.category).sum ≤ 8) (hf : ce + mc ≤ R.cells ∧ sl + ms ≤ R.slots) : ∀ (H : Heap) (locs : List Loc) (ls : Array Slot), hw D B f H → va_S (AB B) s.heap H locs → lh ls nL lv → va_Run p l e R s m args below meth c H locs ce sl mc ms (F0 m pc ls st) rest (Qc (Value.ref b :: As).toArray) (AB B) := by
  intro H locs ls h hS hl
  have hT : GoodIn GT (wsV own index C9 y (ws_ y bc n9 ret)) := fun w hw => by
    unfold wsV at hw
    rcases List.mem_append.mp hw with q | q
    · simp only [List.mem_cons, List.not_mem_nil, or_false] at q
      rcases q with rfl | rfl | rfl | rfl
      · exact gt_in g1
      · exact gt_in g2
      · exact gt_in g5
      · exact gt_in g3
    · exact gt_ws g4 w q
  exact va_runV (As := As) (rest := rest) ⟨C.1, C.2.1, C.2.2.1, C.2.2.2.1, C.2.2.2.2.1⟩ hM (cwV As.length C.2.2.2.2.1 hT rfl rfl rfl ⟨hcy, hdn⟩ ⟨hR.1, by have h9 := hR.2; show 8 + (n9 + 11) + 40 * lvl ≤ R.locals; omega⟩) ⟨pre_blind, recv_at C h he hc, fun U hU hW => ⟨rfl, pre_at C h hS hU hW⟩⟩ rfl rfl hl.1 hst (lv_room hrest) hd hf
theorem r_A (C : Cx p s m args c cc nL own D B K) {y : MethodName} {bc : ByteArray} {n9 index lvl mc ms : Nat} {ret : Option FieldType} {Qc : Array Value → State → Outcome → State → Prop} {As rest : List Value} {x : MethodName} {owner : String} {b ci N9 : Nat} {fs : List Value} {T9 : u_T} {C9 : String} (hM : Kc l D B K y bc n9 ret lvl mc ms (.ref b :: As) f Qc) (hd : decode cc pc = .ok (.invokevirtual index, 3)) (he : f b = some (.inr (ci, fs))) (hc : classes[ci]? = some (C9, T9, N9)) (g1 : Cond.methodLink own index x ∈ GT) (g2 : Cond.sameMethod x.cls owner x.name x.desc ∈ GT) (g5 : Cond.selects C9 x y ∈ GT) (g6 : Cond.instanceMethod y ∈ GT) (g3 : Cond.initialized y.cls ∈ GT) (g4 : Cond.code y bc n9 ret ∈ GT) (gz : Cond.declares ⟨owner, x.name, x.desc⟩ ∈ nbL) (hR : RN R (lvl + 1)) (hml : n9 ≤ 21) (hst : st = As.reverse ++ .ref b :: rest) (hdn : owner ≠ "java/lang/invoke/MethodHandle" ∧ owner ≠ "java/lang/invoke/VarHandle" ∧ (parseMethodDescriptor x.desc).map (fun d => d.parameters.length) = some As.length) (hrest : (rest.map fun v => v.category).sum ≤ 8) (hf : ce + mc ≤ R.cells ∧ sl + ms ≤ R.slots) : ∀ (H : Heap) (locs : List Loc) (ls : Array Slot), hw D B f H → va_S (AB B) s.heap H locs → lh ls nL lv → va_Run p l e R s m args below meth c H locs ce sl mc ms (F0 m pc ls st) rest (Qc (Value.ref b :: As).toArray) (AB B) := by
  intro H locs ls h hS hl
  have hT : GoodIn GT (va_wsU own index C9 owner x y (ws_ y bc n9 ret)) := fun w hw => by
    unfold va_wsU at hw
    rcases List.mem_append.mp hw with q | q
    · simp only [List.mem_cons, List.not_mem_nil, or_false] at q
      rcases q with rfl | rfl | rfl | rfl | rfl
      · exact gt_in g1
      · exact gt_in g2
      · exact gt_in g5
      · exact gt_in g6
      · exact gt_in g3
    · exact gt_ws g4 w q
  exact va_runU (As := As) (rest := rest) ⟨C.1, C.2.1, C.2.2.1, C.2.2.2.1, C.2.2.2.2.1⟩ hM (va_cwA As.length C.2.2.2.2.1 hT rfl rfl rfl (C.2.2.2.2.2.2.2.1 _ gz) hdn ⟨hR.1, by have h9 := hR.2; show 8 + (n9 + 11) + 40 * lvl ≤ R.locals; omega⟩) ⟨pre_blind, recv_at C h he hc, fun U hU hW => ⟨rfl, pre_at C h hS hU hW⟩⟩ rfl rfl hl.1 hst (lv_room hrest) hd hf
theorem r_U (C : Cx p s m args c cc nL own D B K) {y : MethodName} {bc : ByteArray} {n9 index lvl mc ms : Nat} {ret : Option FieldType} {Qc : Array Value → State → Outcome → State → Prop} {As rest : List Value} {x : MethodName} {owner : String} {b ci N9 : Nat} {fs : List Value} {T9 : u_T} {C9 : String} (hM : Kc l D B K y bc n9 ret lvl mc ms (.ref b :: As) f Qc) (hd : decode cc pc = .ok (.invokevirtual index, 3)) (he : f b = some (.inr (ci, fs))) (hc : classes[ci]? = some (C9, T9, N9)) (g1 : Cond.methodLink own index x ∈ GT) (g2 : Cond.sameMethod x.cls owner x.name x.desc ∈ GT) (g5 : Cond.selects C9 x y ∈ GT) (g6 : Cond.instanceMethod y ∈ GT) (g3 : Cond.initialized y.cls ∈ GT) (g4 : Cond.code y bc n9 ret ∈ GT) (gz : y = ⟨owner, x.name, x.desc⟩) (hR : RN R (lvl + 1)) (hml : n9 ≤ 21) (hst : st = As.reverse ++ .ref b :: rest) (hdn : owner ≠ "java/lang/invoke/MethodHandle" ∧ owner ≠ "java/lang/invoke/VarHandle" ∧ (parseMethodDescriptor x.desc).map (fun d => d.parameters.length) = some As.length) (hrest : (rest.map fun v => v.category).sum ≤ 8) (hf : ce + mc ≤ R.cells ∧ sl + ms ≤ R.slots) : ∀ (H : Heap) (locs : List Loc) (ls : Array Slot), hw D B f H → va_S (AB B) s.heap H locs → lh ls nL lv → va_Run p l e R s m args below meth c H locs ce sl mc ms (F0 m pc ls st) rest (Qc (Value.ref b :: As).toArray) (AB B) := by
  intro H locs ls h hS hl
  have hT : GoodIn GT (va_wsU own index C9 owner x y (ws_ y bc n9 ret)) := fun w hw => by
    unfold va_wsU at hw
    rcases List.mem_append.mp hw with q | q
    · simp only [List.mem_cons, List.not_mem_nil, or_false] at q
      rcases q with rfl | rfl | rfl | rfl | rfl
      · exact gt_in g1
      · exact gt_in g2
      · exact gt_in g5
      · exact gt_in g6
      · exact gt_in g3
    · exact gt_ws g4 w q
  exact va_runU (As := As) (rest := rest) ⟨C.1, C.2.1, C.2.2.1, C.2.2.2.1, C.2.2.2.2.1⟩ hM (va_cwU As.length C.2.2.2.2.1 hT rfl rfl rfl gz hdn ⟨hR.1, by have h9 := hR.2; show 8 + (n9 + 11) + 40 * lvl ≤ R.locals; omega⟩) ⟨pre_blind, recv_at C h he hc, fun U hU hW => ⟨rfl, pre_at C h hS hU hW⟩⟩ rfl rfl hl.1 hst (lv_room hrest) hd hf
theorem r_I (C : Cx p s m args c cc nL own D B K) {y : MethodName} {bc : ByteArray} {n9 index lvl mc ms : Nat} {Qc : Array Value → State → Outcome → State → Prop} {As rest : List Value} {b : Nat} (hM : Kc l D B K y bc n9 none lvl mc ms (.ref b :: As) f Qc) (hd : decode cc pc = .ok (.invokespecial index, 3)) (g1 : Cond.methodLink own index y ∈ GT) (g2 : Cond.instanceMethod y ∈ GT) (g3 : Cond.initialized y.cls ∈ GT) (g4 : Cond.code y bc n9 none ∈ GT) (hy1 : y.name = "<init>") (hR : RN R (lvl + 1)) (hml : n9 ≤ 21) (hst : st = As.reverse ++ .ref b :: rest) (hdn : y.cls ≠ "java/lang/invoke/MethodHandle" ∧ y.cls ≠ "java/lang/invoke/VarHandle" ∧ (parseMethodDescriptor y.desc).map (fun d => d.parameters.length) = some As.length) (hrest : (rest.map fun v => v.category).sum ≤ 8) (hf : ce + mc ≤ R.cells ∧ sl + ms ≤ R.slots) : ∀ (H : Heap) (locs : List Loc) (ls : Array Slot), hw D B f H → va_S (AB B) s.heap H locs → lh ls nL lv → va_Run p l e R s m args below meth c H locs ce sl mc ms (F0 m pc ls st) rest (Qc (Value.ref b :: As).toArray) (AB B) := by
  intro H locs ls h hS hl
  exact va_runI (As := As) (rest := rest) ⟨C.1, C.2.1, C.2.2.1, C.2.2.2.1, C.2.2.2.2.1⟩ hM (cwI As.length C.2.2.2.2.1 (gt_ws g4) rfl rfl rfl (C.2.2.2.2.1 _ g3) (C.2.2.2.2.1 _ g1) (C.2.2.2.2.1 _ g2) hy1 hdn ⟨hR.1, by have h9 := hR.2; show 8 + (n9 + 11) + 40 * lvl ≤ R.locals; omega⟩) ⟨pre_blind, fun U hU hW => ⟨rfl, pre_at C h hS hU hW⟩⟩ rfl rfl hl.1 hst (lv_room hrest) hd hf
theorem r_IN (C : Cx p s m args c cc nL own D B K) {y : MethodName} {bc : ByteArray} {n9 index lvl mc ms : Nat} {Qc : Array Value → State → Outcome → State → Prop} {As rest : List Value} {b : Nat} {host : String} (hM : Kc l D B K y bc n9 none lvl mc ms (.ref b :: As) f Qc) (hd : decode cc pc = .ok (.invokespecial index, 3)) (g1 : Cond.methodLinkNest own index y host ∈ nbL) (g2 : Cond.instanceMethod y ∈ GT) (g3 : Cond.initialized y.cls ∈ GT) (g4 : Cond.code y bc n9 none ∈ GT) (hy1 : y.name = "<init>") (hR : RN R (lvl + 1)) (hml : n9 ≤ 21) (hst : st = As.reverse ++ .ref b :: rest) (hdn : y.cls ≠ "java/lang/invoke/MethodHandle" ∧ y.cls ≠ "java/lang/invoke/VarHandle" ∧ (parseMethodDescriptor y.desc).map (fun d => d.parameters.length) = some As.length) (hrest : (rest.map fun v => v.category).sum ≤ 8) (hf : ce + mc ≤ R.cells ∧ sl + ms ≤ R.slots) : ∀ (H : Heap) (locs : List Loc) (ls : Array Slot), hw D B f H → va_S (AB B) s.heap H locs → lh ls nL lv → va_Run p l e R s m args below meth c H locs ce sl mc ms (F0 m pc ls st) rest (Qc (Value.ref b :: As).toArray) (AB B) := by
  intro H locs ls h hS hl
  exact va_runIN (As := As) (rest := rest) ⟨C.1, C.2.1, C.2.2.1, C.2.2.2.1, C.2.2.2.2.1⟩ hM ⟨va_cnB As.length C.2.2.2.2.1 (gt_ws g4) rfl rfl rfl (C.2.2.2.2.2.2.2.1 _ g1) (C.2.2.2.2.1 _ g3) hdn ⟨hR.1, by have h9 := hR.2; show 8 + (n9 + 11) + 40 * lvl ≤ R.locals; omega⟩, hy1, C.2.2.2.2.1 _ g2⟩ ⟨pre_blind, fun U hU hW => ⟨rfl, pre_at C h hS hU hW⟩⟩ rfl rfl hl.1 hst (lv_room hrest) hd hf
theorem v_ci {mc ms : Nat} {rest : List Value} {post : Int32 → St → Prop} {a : Array Value} (hr : ∀ (H : Heap) (locs : List Loc) (ls : Array Slot), hw D B f H → va_S (AB B) s.heap H locs → lh ls nL lv → va_Run p l e R s m args below meth c H locs ce sl mc ms (F0 m pc ls st) rest (Qi_ D B post a) (AB B)) (k : ∀ (r : Int32) (f9 : St), post r f9 → V p l e R s m args below meth c D B nL Q (ce + mc) (sl + ms) f9 lv (pc + 3) (.int r :: rest)) : V p l e R s m args below meth c D B nL Q ce sl f lv pc st := fun H locs ls h hS hl => va_calli (hr H locs ls h hS hl) hS (fun _ _ hq => hq) (fun _ hq => hq) (fun r u t H1 locs1 ht hvm hw9 hB hz hk hS1 => k r u hw9 H1 locs1 ls (by rw [← ht]; exact hB) hS1 hl)
theorem v_cl {mc ms : Nat} {rest : List Value} {post : Int64 → St → Prop} {a : Array Value} (hr : ∀ (H : Heap) (locs : List Loc) (ls : Array Slot), hw D B f H → va_S (AB B) s.heap H locs → lh ls nL lv → va_Run p l e R s m args below meth c H locs ce sl mc ms (F0 m pc ls st) rest (Ql_ D B post a) (AB B)) (k : ∀ (r : Int64) (f9 : St), post r f9 → V p l e R s m args below meth c D B nL Q (ce + mc) (sl + ms) f9 lv (pc + 3) (.long r :: rest)) : V p l e R s m args below meth c D B nL Q ce sl f lv pc st := fun H locs ls h hS hl => va_calll (hr H locs ls h hS hl) hS (fun _ _ hq => hq) (fun _ hq => hq) (fun r u t H1 locs1 ht hvm hw9 hB hz hk hS1 => k r u hw9 H1 locs1 ls (by rw [← ht]; exact hB) hS1 hl)
theorem v_cv {mc ms : Nat} {rest : List Value} {post : St → Prop} {a : Array Value} (hr : ∀ (H : Heap) (locs : List Loc) (ls : Array Slot), hw D B f H → va_S (AB B) s.heap H locs → lh ls nL lv → va_Run p l e R s m args below meth c H locs ce sl mc ms (F0 m pc ls st) rest (Qv_ D B post a) (AB B)) (k : ∀ (f9 : St), post f9 → V p l e R s m args below meth c D B nL Q (ce + mc) (sl + ms) f9 lv (pc + 3) rest) : V p l e R s m args below meth c D B nL Q ce sl f lv pc st := fun H locs ls h hS hl => va_callv (hr H locs ls h hS hl) hS (fun _ _ hq => hq) (fun _ hq => hq) (fun u t H1 locs1 ht hvm hw9 hB hz hk hS1 => k u hw9 H1 locs1 ls (by rw [← ht]; exact hB) hS1 hl)
theorem v_cq {mc ms : Nat} {rest : List Value} {post : Option Nat → St → Prop} {a : Array Value} (hr : ∀ (H : Heap) (locs : List Loc) (ls : Array Slot), hw D B f H → va_S (AB B) s.heap H locs → lh ls nL lv → va_Run p l e R s m args below meth c H locs ce sl mc ms (F0 m pc ls st) rest (Qq_ D B post a) (AB B)) (k : ∀ (r : Option Nat) (f9 : St), post r f9 → V p l e R s m args below meth c D B nL Q (ce + mc) (sl + ms) f9 lv (pc + 3) (va_rf r :: rest)) : V p l e R s m args below meth c D B nL Q ce sl f lv pc st := fun H locs ls h hS hl => va_callq (hr H locs ls h hS hl) hS (fun _ _ hq => hq) (fun _ hq => hq) (fun r u t H1 locs1 ht hvm hw9 hB hz hk hS1 => k r u hw9 H1 locs1 ls (by rw [← ht]; exact hB) hS1 hl)
theorem v_obj (C : Cx p s m args c cc nL own D B K) {a idx : Nat} (hd : decode cc pc = .ok (.invokespecial idx, 3)) (g1 : Cond.methodLink own idx objectInit ∈ GT) (g2 : Cond.instanceMethod objectInit ∈ GT) (g3 : Cond.code objectInit ⟨#[0xb1]⟩ 1 none ∈ GT) (hR : RN R 1) (hrest : (st.map fun v => v.category).sum ≤ 8) (k : V p l e R s m args below meth c D B nL Q ce sl f lv (pc + 3) st) : V p l e R s m args below meth c D B nL Q ce sl f lv pc (.ref a :: st) := fun H locs ls h hS hl => W.objInit C.1 C.2.1 C.2.2.2.1 (C.2.2.2.2.1 _ g1) (C.2.2.2.2.1 _ g2) (C.2.2.2.2.1 _ g3) rfl (by rw [C.2.2.1]; exact hl.1) rfl hd hR.1 (by have h9 := hR.2; show 2 * 0 + _ + 12 ≤ R.locals; omega) (k H locs ls h hS hl)
theorem v_new (C : Cx p s m args c cc nL own D B K) {C9 : String} {T : u_T} {N ci index : Nat} {fs : List Value} (hd : decode cc pc = .ok (.new index, 3)) (hc : classes[ci]? = some (C9, T, N)) (hin : ∀ w ∈ u_ws C9 T N, w ∈ GT) (ty : Nat → FieldType) (hty : ∀ k, k < N → parseFieldDescriptor (T k).2.2.1 = some (ty k)) (g1 : Cond.classLink own index C9 ∈ GT) (g2 : Cond.instantiable C9 N ∈ GT) (g3 : Cond.initialized C9 ∈ GT) (hfs : ∀ j, j < N → defaultValue (ty j) = vp_V fs j) (hce : ce + 1 ≤ R.cells) (hsl : sl + N ≤ R.slots) (k : ∀ q, f q = none → V p l e R s m args below meth c D B nL Q (ce + 1) (sl + N) (va_up f q (some (.inr (ci, fs)))) lv (pc + 3) (.ref q :: st)) : V p l e R s m args below meth c D B nL Q ce sl f lv pc st := fun H locs ls h hS hl => by
  obtain ⟨ws, hP, hD, hpu⟩ := h.push
  exact va_new (ci := ci) (fs := fs) (C := C9) (T := T) (N := N) C.1 C.2.1 C.2.2.2.2.1 hin ty hty C.2.2.2.1 (C.2.2.2.2.1 _ g1) (C.2.2.2.2.1 _ g2) (C.2.2.2.2.1 _ g3) C.2.2.2.2.2.1 hP hD hS (fun q hq => Nat.le_trans C.2.2.2.2.2.2.1 hq) hc hfs hce hsl hd (fun q H1 hP1 hD1 hS1 => by
    obtain ⟨h1, h2⟩ := hpu q _ H1 hP1 hD1
    exact k q h1 H1 locs ls h2 hS1 hl)
end VC
end
section
/-! leaves: methods that touch no cell -/
theorem tyX_at {N : Nat} {T : u_T} {ty : Nat → FieldType} (h : ∀ k, k < N → parseFieldDescriptor (T k).2.2.1 = some (ty k)) {k : Nat} (hk : k < N) : parseFieldDescriptor (T k).2.2.1 = some (ty k) := h k hk
def tmC (a : Int64) (b : Int64) : Int64 := if a = (0 : Int64) then ((0 : Int64)) else if b = (0 : Int64) then ((0 : Int64)) else if a = (-1 : Int64) then ((-1 : Int64)) else if b = (-1 : Int64) then ((-1 : Int64)) else if a ≤ ((9223372036854775807 : Int64) / b) then (a * b) else ((-1 : Int64))
set_option maxHeartbeats 4000000 in
set_option maxRecDepth 100000 in
theorem c_times (l : Launch) (D : va_G) (B : Nat) (K : Nat → ClassId) (f : St) (a : Int64) (b : Int64) : Kc l D B K yX8_times cX8_times 4 (some .long) 0 0 0 [.long a, .long b] f (Ql_ D B (fun r f9 => r = tmC a b ∧ f9 = f)) := by
  refine v_met [(0, .long a), (2, .long b)] (by decide) (Nat.le_of_ble_eq_true rfl) rfl ?_
  intro p e s m args below meth c C hr hlk hin
  refine v_lload_n C dX8_times_0 rfl rfl ?_
  refine v_lconst (v := 0) C dX8_times_1 (by decide) ?_
  refine v_lc_eq (tgt := 12) C dX8_times_2 dX8_times_3 (by decide) (fun c_2 => ?_) (fun c_2 => ?_)
  · refine v_lconst (v := 0) C dX8_times_12 (by decide) ?_
    exact v_lret C hr hlk dX8_times_13 (Nat.le_refl _) (Nat.le_refl _) ⟨by unfold tmC; rw [if_pos c_2], rfl⟩
  · refine v_lload_n C dX8_times_6 rfl rfl ?_
    refine v_lconst (v := 0) C dX8_times_7 (by decide) ?_
    refine v_lc_ne (tgt := 14) C dX8_times_8 dX8_times_9 (by decide) (fun c_8 => ?_) (fun c_8 => ?_)
    · refine v_lload_n C dX8_times_14 rfl rfl ?_
      refine v_ldc2 C dX8_times_15 g_kl_X8_79 ?_
      refine v_lc_eq (tgt := 40) C dX8_times_18 dX8_times_19 (by decide) (fun c_18 => ?_) (fun c_18 => ?_)
      · refine v_ldc2 C dX8_times_40 g_kl_X8_79 ?_
        exact v_lret C hr hlk dX8_times_43 (Nat.le_refl _) (Nat.le_refl _) ⟨by unfold tmC; rw [if_neg c_2, if_neg c_8, if_pos c_18], rfl⟩
      · refine v_lload_n C dX8_times_22 rfl rfl ?_
        refine v_ldc2 C dX8_times_23 g_kl_X8_79 ?_
        refine v_lc_eq (tgt := 40) C dX8_times_26 dX8_times_27 (by decide) (fun c_26 => ?_) (fun c_26 => ?_)
        · refine v_ldc2 C dX8_times_40 g_kl_X8_79 ?_
          exact v_lret C hr hlk dX8_times_43 (Nat.le_refl _) (Nat.le_refl _) ⟨by unfold tmC; rw [if_neg c_2, if_neg c_8, if_neg c_18, if_pos c_26], rfl⟩
        · refine v_lload_n C dX8_times_30 rfl rfl ?_
          refine v_ldc2 C dX8_times_31 g_kl_X8_141 ?_
          refine v_lload_n C dX8_times_34 rfl rfl ?_
          refine v_ldiv C dX8_times_35 (by assumption) ?_
          refine v_lc_le (tgt := 44) C dX8_times_36 dX8_times_37 (by decide) (fun c_36 => ?_) (fun c_36 => ?_)
          · refine v_lload_n C dX8_times_44 rfl rfl ?_
            refine v_lload_n C dX8_times_45 rfl rfl ?_
            refine v_lmul C dX8_times_46 ?_
            exact v_lret C hr hlk dX8_times_47 (Nat.le_refl _) (Nat.le_refl _) ⟨by unfold tmC; rw [if_neg c_2, if_neg c_8, if_neg c_18, if_neg c_26, if_pos c_36], rfl⟩
          · refine v_ldc2 C dX8_times_40 g_kl_X8_79 ?_
            exact v_lret C hr hlk dX8_times_43 (Nat.le_refl _) (Nat.le_refl _) ⟨by unfold tmC; rw [if_neg c_2, if_neg c_8, if_neg c_18, if_neg c_26, if_neg c_36], rfl⟩
    · refine v_lconst (v := 0) C dX8_times_12 (by decide) ?_
      exact v_lret C hr hlk dX8_times_13 (Nat.le_refl _) (Nat.le_refl _) ⟨by unfold tmC; rw [if_neg c_2, if_pos c_8], rfl⟩

def plC (a : Int64) (b : Int64) : Int64 := if a = (-1 : Int64) then ((-1 : Int64)) else if b = (-1 : Int64) then ((-1 : Int64)) else if a ≤ ((9223372036854775807 : Int64) - b) then (a + b) else ((-1 : Int64))
set_option maxHeartbeats 4000000 in
set_option maxRecDepth 100000 in
theorem c_plus (l : Launch) (D : va_G) (B : Nat) (K : Nat → ClassId) (f : St) (a : Int64) (b : Int64) : Kc l D B K yX8_plus cX8_plus 4 (some .long) 0 0 0 [.long a, .long b] f (Ql_ D B (fun r f9 => r = plC a b ∧ f9 = f)) := by
  refine v_met [(0, .long a), (2, .long b)] (by decide) (Nat.le_of_ble_eq_true rfl) rfl ?_
  intro p e s m args below meth c C hr hlk hin
  refine v_lload_n C dX8_plus_0 rfl rfl ?_
  refine v_ldc2 C dX8_plus_1 g_kl_X8_79 ?_
  refine v_lc_eq (tgt := 26) C dX8_plus_4 dX8_plus_5 (by decide) (fun c_4 => ?_) (fun c_4 => ?_)
  · refine v_ldc2 C dX8_plus_26 g_kl_X8_79 ?_
    exact v_lret C hr hlk dX8_plus_29 (Nat.le_refl _) (Nat.le_refl _) ⟨by unfold plC; rw [if_pos c_4], rfl⟩
  · refine v_lload_n C dX8_plus_8 rfl rfl ?_
    refine v_ldc2 C dX8_plus_9 g_kl_X8_79 ?_
    refine v_lc_eq (tgt := 26) C dX8_plus_12 dX8_plus_13 (by decide) (fun c_12 => ?_) (fun c_12 => ?_)
    · refine v_ldc2 C dX8_plus_26 g_kl_X8_79 ?_
      exact v_lret C hr hlk dX8_plus_29 (Nat.le_refl _) (Nat.le_refl _) ⟨by unfold plC; rw [if_neg c_4, if_pos c_12], rfl⟩
    · refine v_lload_n C dX8_plus_16 rfl rfl ?_
      refine v_ldc2 C dX8_plus_17 g_kl_X8_141 ?_
      refine v_lload_n C dX8_plus_20 rfl rfl ?_
      refine v_lsub C dX8_plus_21 ?_
      refine v_lc_le (tgt := 30) C dX8_plus_22 dX8_plus_23 (by decide) (fun c_22 => ?_) (fun c_22 => ?_)
      · refine v_lload_n C dX8_plus_30 rfl rfl ?_
        refine v_lload_n C dX8_plus_31 rfl rfl ?_
        refine v_ladd C dX8_plus_32 ?_
        exact v_lret C hr hlk dX8_plus_33 (Nat.le_refl _) (Nat.le_refl _) ⟨by unfold plC; rw [if_neg c_4, if_neg c_12, if_pos c_22], rfl⟩
      · refine v_ldc2 C dX8_plus_26 g_kl_X8_79 ?_
        exact v_lret C hr hlk dX8_plus_29 (Nat.le_refl _) (Nat.le_refl _) ⟨by unfold plC; rw [if_neg c_4, if_neg c_12, if_neg c_22], rfl⟩

def upC (x : Int32) (m9 : Int32) : Int32 := if x < (0 : Int32) then ((0 : Int32)) else if m9 < x then ((0 : Int32)) else ((1 : Int32))
set_option maxHeartbeats 4000000 in
set_option maxRecDepth 100000 in
theorem c_isUpTo (l : Launch) (D : va_G) (B : Nat) (K : Nat → ClassId) (f : St) (x : Int32) (m9 : Int32) : Kc l D B K yX8_isUpTo cX8_isUpTo 2 (some .boolean) 0 0 0 [.int x, .int m9] f (Qi_ D B (fun r f9 => r = upC x m9 ∧ f9 = f)) := by
  refine v_met [(0, .int x), (1, .int m9)] (by decide) (Nat.le_of_ble_eq_true rfl) rfl ?_
  intro p e s m args below meth c C hr hlk hin
  refine v_iload_n C dX8_isUpTo_0 rfl rfl ?_
  refine v_if_lt (tgt := 13) C dX8_isUpTo_1 (by decide) (fun c_1 => ?_) (fun c_1 => ?_)
  · refine v_iconst (v := 0) C dX8_isUpTo_13 (by decide) ?_
    exact v_zret C hr hlk dX8_isUpTo_14 rfl (Nat.le_refl _) (Nat.le_refl _) ⟨by unfold upC; rw [if_pos c_1], rfl⟩
  · refine v_iload_n C dX8_isUpTo_4 rfl rfl ?_
    refine v_iload_n C dX8_isUpTo_5 rfl rfl ?_
    refine v_icmp_gt (tgt := 13) C dX8_isUpTo_6 (by decide) (fun c_6 => ?_) (fun c_6 => ?_)
    · refine v_iconst (v := 0) C dX8_isUpTo_13 (by decide) ?_
      exact v_zret C hr hlk dX8_isUpTo_14 rfl (Nat.le_refl _) (Nat.le_refl _) ⟨by unfold upC; rw [if_neg c_1, if_pos c_6], rfl⟩
    · refine v_iconst (v := 1) C dX8_isUpTo_9 (by decide) ?_
      refine v_goto (tgt := 14) C dX8_isUpTo_10 (by decide) ?_
      exact v_zret C hr hlk dX8_isUpTo_14 rfl (Nat.le_refl _) (Nat.le_refl _) ⟨by unfold upC; rw [if_neg c_1, if_neg c_6], rfl⟩

def lcC (x : Int32) : Int64 := (x.toInt64 - (1000000000 : Int64))
set_option maxHeartbeats 4000000 in
set_option maxRecDepth 100000 in
theorem c_longCode (l : Launch) (D : va_G) (B : Nat) (K : Nat → ClassId) (f : St) (x : Int32) : Kc l D B K yX8_longCode cX8_longCode 1 (some .long) 0 0 0 [.int x] f (Ql_ D B (fun r f9 => r = lcC x ∧ f9 = f)) := by
  refine v_met [(0, .int x)] (by decide) (Nat.le_of_ble_eq_true rfl) rfl ?_
  intro p e s m args below meth c C hr hlk hin
  refine v_iload_n C dX8_longCode_0 rfl rfl ?_
  refine v_i2l C dX8_longCode_1 ?_
  refine v_ldc2 C dX8_longCode_2 g_kl_X8_196 ?_
  refine v_lsub C dX8_longCode_5 ?_
  exact v_lret C hr hlk dX8_longCode_6 (Nat.le_refl _) (Nat.le_refl _) ⟨by unfold lcC; rfl, rfl⟩

def quC (d9 : Int64) (s9 : Int64) : Int64 := if (1 : Int64) ≤ s9 then if (d9 - (((((d9.toUInt64 >>> ((1 : Int32).toInt64.toUInt64 &&& Int64.toUInt64 63)).toInt64) / s9) <<< ((1 : Int32).toInt64 &&& 63)) * s9)) < s9 then ((((d9.toUInt64 >>> ((1 : Int32).toInt64.toUInt64 &&& Int64.toUInt64 63)).toInt64) / s9) <<< ((1 : Int32).toInt64 &&& 63)) else (((((d9.toUInt64 >>> ((1 : Int32).toInt64.toUInt64 &&& Int64.toUInt64 63)).toInt64) / s9) <<< ((1 : Int32).toInt64 &&& 63)) + (1 : Int64)) else ((0 : Int64))
set_option maxHeartbeats 4000000 in
set_option maxRecDepth 100000 in
theorem c_quotient (l : Launch) (D : va_G) (B : Nat) (K : Nat → ClassId) (f : St) (d9 : Int64) (s9 : Int64) : Kc l D B K yX8_quotient cX8_quotient 6 (some .long) 0 0 0 [.long d9, .long s9] f (Ql_ D B (fun r f9 => r = quC d9 s9 ∧ f9 = f)) := by
  refine v_met [(0, .long d9), (2, .long s9)] (by decide) (Nat.le_of_ble_eq_true rfl) rfl ?_
  intro p e s m args below meth c C hr hlk hin
  refine v_lload_n C dX8_quotient_0 rfl rfl ?_
  refine v_lconst (v := 1) C dX8_quotient_1 (by decide) ?_
  refine v_lc_ge (tgt := 8) C dX8_quotient_2 dX8_quotient_3 (by decide) (fun c_2 => ?_) (fun c_2 => ?_)
  · refine v_lload_n C dX8_quotient_8 rfl rfl ?_
    refine v_iconst (v := 1) C dX8_quotient_9 (by decide) ?_
    refine v_lushr C dX8_quotient_10 ?_
    refine v_lload_n C dX8_quotient_11 rfl rfl ?_
    refine v_ldiv C dX8_quotient_12 (fun h9 => absurd c_2 (by rw [h9]; decide)) ?_
    refine v_iconst (v := 1) C dX8_quotient_13 (by decide) ?_
    refine v_lshl C dX8_quotient_14 ?_
    refine v_lstore C dX8_quotient_15 (by decide) rfl ?_
    refine v_lload_n C dX8_quotient_17 rfl rfl ?_
    refine v_lload C dX8_quotient_18 rfl ?_
    refine v_lload_n C dX8_quotient_20 rfl rfl ?_
    refine v_lmul C dX8_quotient_21 ?_
    refine v_lsub C dX8_quotient_22 ?_
    refine v_lload_n C dX8_quotient_23 rfl rfl ?_
    refine v_lc_lt (tgt := 35) C dX8_quotient_24 dX8_quotient_25 (by decide) (fun c_24 => ?_) (fun c_24 => ?_)
    · refine v_lload C dX8_quotient_35 rfl ?_
      exact v_lret C hr hlk dX8_quotient_37 (Nat.le_refl _) (Nat.le_refl _) ⟨by unfold quC; rw [if_pos c_2, if_pos c_24], rfl⟩
    · refine v_lload C dX8_quotient_28 rfl ?_
      refine v_lconst (v := 1) C dX8_quotient_30 (by decide) ?_
      refine v_ladd C dX8_quotient_31 ?_
      refine v_goto (tgt := 37) C dX8_quotient_32 (by decide) ?_
      exact v_lret C hr hlk dX8_quotient_37 (Nat.le_refl _) (Nat.le_refl _) ⟨by unfold quC; rw [if_pos c_2, if_neg c_24], rfl⟩
  · refine v_lconst (v := 0) C dX8_quotient_6 (by decide) ?_
    exact v_lret C hr hlk dX8_quotient_7 (Nat.le_refl _) (Nat.le_refl _) ⟨by unfold quC; rw [if_neg c_2], rfl⟩

def tmM (a : Int64) (b : Int64) : Int64 := if a = (0 : Int64) then ((0 : Int64)) else if b = (0 : Int64) then ((0 : Int64)) else if a = (-1 : Int64) then ((-1 : Int64)) else if b = (-1 : Int64) then ((-1 : Int64)) else if a ≤ ((9223372036854775807 : Int64) / b) then (a * b) else ((-1 : Int64))
set_option maxHeartbeats 4000000 in
set_option maxRecDepth 100000 in
theorem m_times (l : Launch) (D : va_G) (B : Nat) (K : Nat → ClassId) (f : St) (a : Int64) (b : Int64) : Kc l D B K yX9_times cX9_times 4 (some .long) 0 0 0 [.long a, .long b] f (Ql_ D B (fun r f9 => r = tmM a b ∧ f9 = f)) := by
  refine v_met [(0, .long a), (2, .long b)] (by decide) (Nat.le_of_ble_eq_true rfl) rfl ?_
  intro p e s m args below meth c C hr hlk hin
  refine v_lload_n C dX9_times_0 rfl rfl ?_
  refine v_lconst (v := 0) C dX9_times_1 (by decide) ?_
  refine v_lc_eq (tgt := 12) C dX9_times_2 dX9_times_3 (by decide) (fun c_2 => ?_) (fun c_2 => ?_)
  · refine v_lconst (v := 0) C dX9_times_12 (by decide) ?_
    exact v_lret C hr hlk dX9_times_13 (Nat.le_refl _) (Nat.le_refl _) ⟨by unfold tmM; rw [if_pos c_2], rfl⟩
  · refine v_lload_n C dX9_times_6 rfl rfl ?_
    refine v_lconst (v := 0) C dX9_times_7 (by decide) ?_
    refine v_lc_ne (tgt := 14) C dX9_times_8 dX9_times_9 (by decide) (fun c_8 => ?_) (fun c_8 => ?_)
    · refine v_lload_n C dX9_times_14 rfl rfl ?_
      refine v_ldc2 C dX9_times_15 g_kl_X9_68 ?_
      refine v_lc_eq (tgt := 40) C dX9_times_18 dX9_times_19 (by decide) (fun c_18 => ?_) (fun c_18 => ?_)
      · refine v_ldc2 C dX9_times_40 g_kl_X9_68 ?_
        refine v_goto (tgt := 49) C dX9_times_43 (by decide) ?_
        exact v_lret C hr hlk dX9_times_49 (Nat.le_refl _) (Nat.le_refl _) ⟨by unfold tmM; rw [if_neg c_2, if_neg c_8, if_pos c_18], rfl⟩
      · refine v_lload_n C dX9_times_22 rfl rfl ?_
        refine v_ldc2 C dX9_times_23 g_kl_X9_68 ?_
        refine v_lc_eq (tgt := 40) C dX9_times_26 dX9_times_27 (by decide) (fun c_26 => ?_) (fun c_26 => ?_)
        · refine v_ldc2 C dX9_times_40 g_kl_X9_68 ?_
          refine v_goto (tgt := 49) C dX9_times_43 (by decide) ?_
          exact v_lret C hr hlk dX9_times_49 (Nat.le_refl _) (Nat.le_refl _) ⟨by unfold tmM; rw [if_neg c_2, if_neg c_8, if_neg c_18, if_pos c_26], rfl⟩
        · refine v_lload_n C dX9_times_30 rfl rfl ?_
          refine v_ldc2 C dX9_times_31 g_kl_X9_76 ?_
          refine v_lload_n C dX9_times_34 rfl rfl ?_
          refine v_ldiv C dX9_times_35 (by assumption) ?_
          refine v_lc_le (tgt := 46) C dX9_times_36 dX9_times_37 (by decide) (fun c_36 => ?_) (fun c_36 => ?_)
          · refine v_lload_n C dX9_times_46 rfl rfl ?_
            refine v_lload_n C dX9_times_47 rfl rfl ?_
            refine v_lmul C dX9_times_48 ?_
            exact v_lret C hr hlk dX9_times_49 (Nat.le_refl _) (Nat.le_refl _) ⟨by unfold tmM; rw [if_neg c_2, if_neg c_8, if_neg c_18, if_neg c_26, if_pos c_36], rfl⟩
          · refine v_ldc2 C dX9_times_40 g_kl_X9_68 ?_
            refine v_goto (tgt := 49) C dX9_times_43 (by decide) ?_
            exact v_lret C hr hlk dX9_times_49 (Nat.le_refl _) (Nat.le_refl _) ⟨by unfold tmM; rw [if_neg c_2, if_neg c_8, if_neg c_18, if_neg c_26, if_neg c_36], rfl⟩
    · refine v_lconst (v := 0) C dX9_times_12 (by decide) ?_
      exact v_lret C hr hlk dX9_times_13 (Nat.le_refl _) (Nat.le_refl _) ⟨by unfold tmM; rw [if_neg c_2, if_pos c_8], rfl⟩

def inM (a : Int64) (b : Int64) (c9 : Int64) : Int32 := if a < b then ((0 : Int32)) else if c9 < a then ((0 : Int32)) else ((1 : Int32))
set_option maxHeartbeats 4000000 in
set_option maxRecDepth 100000 in
theorem m_in (l : Launch) (D : va_G) (B : Nat) (K : Nat → ClassId) (f : St) (a : Int64) (b : Int64) (c9 : Int64) : Kc l D B K yX9_in cX9_in 6 (some .boolean) 0 0 0 [.long a, .long b, .long c9] f (Qi_ D B (fun r f9 => r = inM a b c9 ∧ f9 = f)) := by
  refine v_met [(0, .long a), (2, .long b), (4, .long c9)] (by decide) (Nat.le_of_ble_eq_true rfl) rfl ?_
  intro p e s m args below meth c C hr hlk hin
  refine v_lload_n C dX9_in_0 rfl rfl ?_
  refine v_lload_n C dX9_in_1 rfl rfl ?_
  refine v_lc_lt (tgt := 17) C dX9_in_2 dX9_in_3 (by decide) (fun c_2 => ?_) (fun c_2 => ?_)
  · refine v_iconst (v := 0) C dX9_in_17 (by decide) ?_
    exact v_zret C hr hlk dX9_in_18 rfl (Nat.le_refl _) (Nat.le_refl _) ⟨by unfold inM; rw [if_pos c_2], rfl⟩
  · refine v_lload_n C dX9_in_6 rfl rfl ?_
    refine v_lload C dX9_in_7 rfl ?_
    refine v_lc_gt (tgt := 17) C dX9_in_9 dX9_in_10 (by decide) (fun c_9 => ?_) (fun c_9 => ?_)
    · refine v_iconst (v := 0) C dX9_in_17 (by decide) ?_
      exact v_zret C hr hlk dX9_in_18 rfl (Nat.le_refl _) (Nat.le_refl _) ⟨by unfold inM; rw [if_neg c_2, if_pos c_9], rfl⟩
    · refine v_iconst (v := 1) C dX9_in_13 (by decide) ?_
      refine v_goto (tgt := 18) C dX9_in_14 (by decide) ?_
      exact v_zret C hr hlk dX9_in_18 rfl (Nat.le_refl _) (Nat.le_refl _) ⟨by unfold inM; rw [if_neg c_2, if_neg c_9], rfl⟩

def loM (a : Int64) (b : Int64) (by_ : Int64) : Int64 := if (0 : Int64) ≤ (((a - a / by_ * by_) - (b - b / by_ * by_)) - ((a - a / by_ * by_) - (b - b / by_ * by_)) / by_ * by_) then (((a - a / by_ * by_) - (b - b / by_ * by_)) - ((a - a / by_ * by_) - (b - b / by_ * by_)) / by_ * by_) else ((((a - a / by_ * by_) - (b - b / by_ * by_)) - ((a - a / by_ * by_) - (b - b / by_ * by_)) / by_ * by_) + by_)
set_option maxHeartbeats 4000000 in
set_option maxRecDepth 100000 in
theorem m_leftOver (l : Launch) (D : va_G) (B : Nat) (K : Nat → ClassId) (f : St) (a : Int64) (b : Int64) (by_ : Int64) (hby : ¬ by_ = 0) : Kc l D B K yX9_leftOver cX9_leftOver 12 (some .long) 0 0 0 [.long a, .long b, .long by_] f (Ql_ D B (fun r f9 => r = loM a b by_ ∧ f9 = f)) := by
  refine v_met [(0, .long a), (2, .long b), (4, .long by_)] (by decide) (Nat.le_of_ble_eq_true rfl) rfl ?_
  intro p e s m args below meth c C hr hlk hin
  refine v_lload_n C dX9_leftOver_0 rfl rfl ?_
  refine v_lload C dX9_leftOver_1 rfl ?_
  refine v_lrem C dX9_leftOver_3 (by assumption) ?_
  refine v_lstore C dX9_leftOver_4 (by decide) rfl ?_
  refine v_lload_n C dX9_leftOver_6 rfl rfl ?_
  refine v_lload C dX9_leftOver_7 rfl ?_
  refine v_lrem C dX9_leftOver_9 (by assumption) ?_
  refine v_lstore C dX9_leftOver_10 (by decide) rfl ?_
  refine v_lload C dX9_leftOver_12 rfl ?_
  refine v_lload C dX9_leftOver_14 rfl ?_
  refine v_lsub C dX9_leftOver_16 ?_
  refine v_lload C dX9_leftOver_17 rfl ?_
  refine v_lrem C dX9_leftOver_19 (by assumption) ?_
  refine v_lstore C dX9_leftOver_20 (by decide) rfl ?_
  refine v_lload C dX9_leftOver_22 rfl ?_
  refine v_lconst (v := 0) C dX9_leftOver_24 (by decide) ?_
  refine v_lc_ge (tgt := 37) C dX9_leftOver_25 dX9_leftOver_26 (by decide) (fun c_25 => ?_) (fun c_25 => ?_)
  · refine v_lload C dX9_leftOver_37 rfl ?_
    exact v_lret C hr hlk dX9_leftOver_39 (Nat.le_refl _) (Nat.le_refl _) ⟨by unfold loM; rw [if_pos c_25], rfl⟩
  · refine v_lload C dX9_leftOver_29 rfl ?_
    refine v_lload C dX9_leftOver_31 rfl ?_
    refine v_ladd C dX9_leftOver_33 ?_
    refine v_goto (tgt := 39) C dX9_leftOver_34 (by decide) ?_
    exact v_lret C hr hlk dX9_leftOver_39 (Nat.le_refl _) (Nat.le_refl _) ⟨by unfold loM; rw [if_neg c_25], rfl⟩
end
section
/-! small objects: Hand, Miss, Names, Row -/
theorem hdn_yL_array : yL_array.cls ≠ "java/lang/invoke/MethodHandle" ∧ yL_array.cls ≠ "java/lang/invoke/VarHandle" ∧ (parseMethodDescriptor yL_array.desc).map (fun d => d.parameters.length) = some 3 := by decide +kernel
theorem hdn_yL_at : yL_at.cls ≠ "java/lang/invoke/MethodHandle" ∧ yL_at.cls ≠ "java/lang/invoke/VarHandle" ∧ (parseMethodDescriptor yL_at.desc).map (fun d => d.parameters.length) = some 3 := by decide +kernel
theorem hdn_yL_element : yL_element.cls ≠ "java/lang/invoke/MethodHandle" ∧ yL_element.cls ≠ "java/lang/invoke/VarHandle" ∧ (parseMethodDescriptor yL_element.desc).map (fun d => d.parameters.length) = some 4 := by decide +kernel
theorem hdn_yL_go : yL_go.cls ≠ "java/lang/invoke/MethodHandle" ∧ yL_go.cls ≠ "java/lang/invoke/VarHandle" ∧ (parseMethodDescriptor yL_go.desc).map (fun d => d.parameters.length) = some 4 := by decide +kernel
theorem hdn_yL_held : yL_held.cls ≠ "java/lang/invoke/MethodHandle" ∧ yL_held.cls ≠ "java/lang/invoke/VarHandle" ∧ (parseMethodDescriptor yL_held.desc).map (fun d => d.parameters.length) = some 3 := by decide +kernel
theorem hdn_yL_hold : yL_hold.cls ≠ "java/lang/invoke/MethodHandle" ∧ yL_hold.cls ≠ "java/lang/invoke/VarHandle" ∧ (parseMethodDescriptor yL_hold.desc).map (fun d => d.parameters.length) = some 4 := by decide +kernel
theorem hdn_yL_index : yL_index.cls ≠ "java/lang/invoke/MethodHandle" ∧ yL_index.cls ≠ "java/lang/invoke/VarHandle" ∧ (parseMethodDescriptor yL_index.desc).map (fun d => d.parameters.length) = some 3 := by decide +kernel
theorem hdn_yL_law : yL_law.cls ≠ "java/lang/invoke/MethodHandle" ∧ yL_law.cls ≠ "java/lang/invoke/VarHandle" ∧ (parseMethodDescriptor yL_law.desc).map (fun d => d.parameters.length) = some 1 := by decide +kernel
theorem hdn_yL_put : yL_put.cls ≠ "java/lang/invoke/MethodHandle" ∧ yL_put.cls ≠ "java/lang/invoke/VarHandle" ∧ (parseMethodDescriptor yL_put.desc).map (fun d => d.parameters.length) = some 4 := by decide +kernel
theorem hdn_yX0_fill : yX0_fill.cls ≠ "java/lang/invoke/MethodHandle" ∧ yX0_fill.cls ≠ "java/lang/invoke/VarHandle" ∧ (parseMethodDescriptor yX0_fill.desc).map (fun d => d.parameters.length) = some 3 := by decide +kernel
theorem hdn_yX0_init : yX0_init.cls ≠ "java/lang/invoke/MethodHandle" ∧ yX0_init.cls ≠ "java/lang/invoke/VarHandle" ∧ (parseMethodDescriptor yX0_init.desc).map (fun d => d.parameters.length) = some 2 := by decide +kernel
theorem hdn_yX0_madeOf : yX0_madeOf.cls ≠ "java/lang/invoke/MethodHandle" ∧ yX0_madeOf.cls ≠ "java/lang/invoke/VarHandle" ∧ (parseMethodDescriptor yX0_madeOf.desc).map (fun d => d.parameters.length) = some 0 := by decide +kernel
theorem hdn_yX0_place : yX0_place.cls ≠ "java/lang/invoke/MethodHandle" ∧ yX0_place.cls ≠ "java/lang/invoke/VarHandle" ∧ (parseMethodDescriptor yX0_place.desc).map (fun d => d.parameters.length) = some 4 := by decide +kernel
theorem hdn_yX0_singleAt : yX0_singleAt.cls ≠ "java/lang/invoke/MethodHandle" ∧ yX0_singleAt.cls ≠ "java/lang/invoke/VarHandle" ∧ (parseMethodDescriptor yX0_singleAt.desc).map (fun d => d.parameters.length) = some 1 := by decide +kernel
theorem hdn_yX1_fill : yX1_fill.cls ≠ "java/lang/invoke/MethodHandle" ∧ yX1_fill.cls ≠ "java/lang/invoke/VarHandle" ∧ (parseMethodDescriptor yX1_fill.desc).map (fun d => d.parameters.length) = some 3 := by decide +kernel
theorem hdn_yX1_init : yX1_init.cls ≠ "java/lang/invoke/MethodHandle" ∧ yX1_init.cls ≠ "java/lang/invoke/VarHandle" ∧ (parseMethodDescriptor yX1_init.desc).map (fun d => d.parameters.length) = some 5 := by decide +kernel
theorem hdn_yX1_madeOf : yX1_madeOf.cls ≠ "java/lang/invoke/MethodHandle" ∧ yX1_madeOf.cls ≠ "java/lang/invoke/VarHandle" ∧ (parseMethodDescriptor yX1_madeOf.desc).map (fun d => d.parameters.length) = some 0 := by decide +kernel
theorem hdn_yX1_place : yX1_place.cls ≠ "java/lang/invoke/MethodHandle" ∧ yX1_place.cls ≠ "java/lang/invoke/VarHandle" ∧ (parseMethodDescriptor yX1_place.desc).map (fun d => d.parameters.length) = some 4 := by decide +kernel
theorem hdn_yX1_singleAt : yX1_singleAt.cls ≠ "java/lang/invoke/MethodHandle" ∧ yX1_singleAt.cls ≠ "java/lang/invoke/VarHandle" ∧ (parseMethodDescriptor yX1_singleAt.desc).map (fun d => d.parameters.length) = some 1 := by decide +kernel
theorem hdn_yX2_drop : yX2_drop.cls ≠ "java/lang/invoke/MethodHandle" ∧ yX2_drop.cls ≠ "java/lang/invoke/VarHandle" ∧ (parseMethodDescriptor yX2_drop.desc).map (fun d => d.parameters.length) = some 0 := by decide +kernel
theorem hdn_yX2_init : yX2_init.cls ≠ "java/lang/invoke/MethodHandle" ∧ yX2_init.cls ≠ "java/lang/invoke/VarHandle" ∧ (parseMethodDescriptor yX2_init.desc).map (fun d => d.parameters.length) = some 0 := by decide +kernel
theorem hdn_yX2_look : yX2_look.cls ≠ "java/lang/invoke/MethodHandle" ∧ yX2_look.cls ≠ "java/lang/invoke/VarHandle" ∧ (parseMethodDescriptor yX2_look.desc).map (fun d => d.parameters.length) = some 1 := by decide +kernel
theorem hdn_yX2_take : yX2_take.cls ≠ "java/lang/invoke/MethodHandle" ∧ yX2_take.cls ≠ "java/lang/invoke/VarHandle" ∧ (parseMethodDescriptor yX2_take.desc).map (fun d => d.parameters.length) = some 2 := by decide +kernel
theorem hdn_yX3_forget : yX3_forget.cls ≠ "java/lang/invoke/MethodHandle" ∧ yX3_forget.cls ≠ "java/lang/invoke/VarHandle" ∧ (parseMethodDescriptor yX3_forget.desc).map (fun d => d.parameters.length) = some 0 := by decide +kernel
theorem hdn_yX3_init : yX3_init.cls ≠ "java/lang/invoke/MethodHandle" ∧ yX3_init.cls ≠ "java/lang/invoke/VarHandle" ∧ (parseMethodDescriptor yX3_init.desc).map (fun d => d.parameters.length) = some 0 := by decide +kernel
theorem hdn_yX3_note : yX3_note.cls ≠ "java/lang/invoke/MethodHandle" ∧ yX3_note.cls ≠ "java/lang/invoke/VarHandle" ∧ (parseMethodDescriptor yX3_note.desc).map (fun d => d.parameters.length) = some 3 := by decide +kernel
theorem hdn_yX4_init : yX4_init.cls ≠ "java/lang/invoke/MethodHandle" ∧ yX4_init.cls ≠ "java/lang/invoke/VarHandle" ∧ (parseMethodDescriptor yX4_init.desc).map (fun d => d.parameters.length) = some 4 := by decide +kernel
theorem hdn_yX4_liesIn : yX4_liesIn.cls ≠ "java/lang/invoke/MethodHandle" ∧ yX4_liesIn.cls ≠ "java/lang/invoke/VarHandle" ∧ (parseMethodDescriptor yX4_liesIn.desc).map (fun d => d.parameters.length) = some 1 := by decide +kernel
theorem hdn_yX4_placeOf : yX4_placeOf.cls ≠ "java/lang/invoke/MethodHandle" ∧ yX4_placeOf.cls ≠ "java/lang/invoke/VarHandle" ∧ (parseMethodDescriptor yX4_placeOf.desc).map (fun d => d.parameters.length) = some 1 := by decide +kernel
theorem hdn_yX4_valueAt : yX4_valueAt.cls ≠ "java/lang/invoke/MethodHandle" ∧ yX4_valueAt.cls ≠ "java/lang/invoke/VarHandle" ∧ (parseMethodDescriptor yX4_valueAt.desc).map (fun d => d.parameters.length) = some 1 := by decide +kernel
theorem hdn_yX5_init : yX5_init.cls ≠ "java/lang/invoke/MethodHandle" ∧ yX5_init.cls ≠ "java/lang/invoke/VarHandle" ∧ (parseMethodDescriptor yX5_init.desc).map (fun d => d.parameters.length) = some 4 := by decide +kernel
theorem hdn_yX5_reaches : yX5_reaches.cls ≠ "java/lang/invoke/MethodHandle" ∧ yX5_reaches.cls ≠ "java/lang/invoke/VarHandle" ∧ (parseMethodDescriptor yX5_reaches.desc).map (fun d => d.parameters.length) = some 1 := by decide +kernel
theorem hdn_yX6_init : yX6_init.cls ≠ "java/lang/invoke/MethodHandle" ∧ yX6_init.cls ≠ "java/lang/invoke/VarHandle" ∧ (parseMethodDescriptor yX6_init.desc).map (fun d => d.parameters.length) = some 6 := by decide +kernel
theorem hdn_yX6_liesIn : yX6_liesIn.cls ≠ "java/lang/invoke/MethodHandle" ∧ yX6_liesIn.cls ≠ "java/lang/invoke/VarHandle" ∧ (parseMethodDescriptor yX6_liesIn.desc).map (fun d => d.parameters.length) = some 1 := by decide +kernel
theorem hdn_yX6_liesInRow : yX6_liesInRow.cls ≠ "java/lang/invoke/MethodHandle" ∧ yX6_liesInRow.cls ≠ "java/lang/invoke/VarHandle" ∧ (parseMethodDescriptor yX6_liesInRow.desc).map (fun d => d.parameters.length) = some 1 := by decide +kernel
theorem hdn_yX6_placeOf : yX6_placeOf.cls ≠ "java/lang/invoke/MethodHandle" ∧ yX6_placeOf.cls ≠ "java/lang/invoke/VarHandle" ∧ (parseMethodDescriptor yX6_placeOf.desc).map (fun d => d.parameters.length) = some 1 := by decide +kernel
theorem hdn_yX6_valueAt : yX6_valueAt.cls ≠ "java/lang/invoke/MethodHandle" ∧ yX6_valueAt.cls ≠ "java/lang/invoke/VarHandle" ∧ (parseMethodDescriptor yX6_valueAt.desc).map (fun d => d.parameters.length) = some 1 := by decide +kernel
theorem hdn_yX7_eachLiesIn : yX7_eachLiesIn.cls ≠ "java/lang/invoke/MethodHandle" ∧ yX7_eachLiesIn.cls ≠ "java/lang/invoke/VarHandle" ∧ (parseMethodDescriptor yX7_eachLiesIn.desc).map (fun d => d.parameters.length) = some 1 := by decide +kernel
theorem hdn_yX7_fill : yX7_fill.cls ≠ "java/lang/invoke/MethodHandle" ∧ yX7_fill.cls ≠ "java/lang/invoke/VarHandle" ∧ (parseMethodDescriptor yX7_fill.desc).map (fun d => d.parameters.length) = some 3 := by decide +kernel
theorem hdn_yX7_init : yX7_init.cls ≠ "java/lang/invoke/MethodHandle" ∧ yX7_init.cls ≠ "java/lang/invoke/VarHandle" ∧ (parseMethodDescriptor yX7_init.desc).map (fun d => d.parameters.length) = some 3 := by decide +kernel
theorem hdn_yX7_madeOf : yX7_madeOf.cls ≠ "java/lang/invoke/MethodHandle" ∧ yX7_madeOf.cls ≠ "java/lang/invoke/VarHandle" ∧ (parseMethodDescriptor yX7_madeOf.desc).map (fun d => d.parameters.length) = some 0 := by decide +kernel
theorem hdn_yX7_place : yX7_place.cls ≠ "java/lang/invoke/MethodHandle" ∧ yX7_place.cls ≠ "java/lang/invoke/VarHandle" ∧ (parseMethodDescriptor yX7_place.desc).map (fun d => d.parameters.length) = some 4 := by decide +kernel
theorem hdn_yX7_singleAt : yX7_singleAt.cls ≠ "java/lang/invoke/MethodHandle" ∧ yX7_singleAt.cls ≠ "java/lang/invoke/VarHandle" ∧ (parseMethodDescriptor yX7_singleAt.desc).map (fun d => d.parameters.length) = some 1 := by decide +kernel
theorem hdn_yX8_add : yX8_add.cls ≠ "java/lang/invoke/MethodHandle" ∧ yX8_add.cls ≠ "java/lang/invoke/VarHandle" ∧ (parseMethodDescriptor yX8_add.desc).map (fun d => d.parameters.length) = some 1 := by decide +kernel
theorem hdn_yX8_addBeside : yX8_addBeside.cls ≠ "java/lang/invoke/MethodHandle" ∧ yX8_addBeside.cls ≠ "java/lang/invoke/VarHandle" ∧ (parseMethodDescriptor yX8_addBeside.desc).map (fun d => d.parameters.length) = some 2 := by decide +kernel
theorem hdn_yX8_addRow : yX8_addRow.cls ≠ "java/lang/invoke/MethodHandle" ∧ yX8_addRow.cls ≠ "java/lang/invoke/VarHandle" ∧ (parseMethodDescriptor yX8_addRow.desc).map (fun d => d.parameters.length) = some 4 := by decide +kernel
theorem hdn_yX8_array : yX8_array.cls ≠ "java/lang/invoke/MethodHandle" ∧ yX8_array.cls ≠ "java/lang/invoke/VarHandle" ∧ (parseMethodDescriptor yX8_array.desc).map (fun d => d.parameters.length) = some 1 := by decide +kernel
theorem hdn_yX8_at : yX8_at.cls ≠ "java/lang/invoke/MethodHandle" ∧ yX8_at.cls ≠ "java/lang/invoke/VarHandle" ∧ (parseMethodDescriptor yX8_at.desc).map (fun d => d.parameters.length) = some 1 := by decide +kernel
theorem hdn_yX8_back : yX8_back.cls ≠ "java/lang/invoke/MethodHandle" ∧ yX8_back.cls ≠ "java/lang/invoke/VarHandle" ∧ (parseMethodDescriptor yX8_back.desc).map (fun d => d.parameters.length) = some 1 := by decide +kernel
theorem hdn_yX8_baseOf : yX8_baseOf.cls ≠ "java/lang/invoke/MethodHandle" ∧ yX8_baseOf.cls ≠ "java/lang/invoke/VarHandle" ∧ (parseMethodDescriptor yX8_baseOf.desc).map (fun d => d.parameters.length) = some 1 := by decide +kernel
theorem hdn_yX8_cellOfHand : yX8_cellOfHand.cls ≠ "java/lang/invoke/MethodHandle" ∧ yX8_cellOfHand.cls ≠ "java/lang/invoke/VarHandle" ∧ (parseMethodDescriptor yX8_cellOfHand.desc).map (fun d => d.parameters.length) = some 1 := by decide +kernel
theorem hdn_yX8_cellsInUse : yX8_cellsInUse.cls ≠ "java/lang/invoke/MethodHandle" ∧ yX8_cellsInUse.cls ≠ "java/lang/invoke/VarHandle" ∧ (parseMethodDescriptor yX8_cellsInUse.desc).map (fun d => d.parameters.length) = some 0 := by decide +kernel
theorem hdn_yX8_clear : yX8_clear.cls ≠ "java/lang/invoke/MethodHandle" ∧ yX8_clear.cls ≠ "java/lang/invoke/VarHandle" ∧ (parseMethodDescriptor yX8_clear.desc).map (fun d => d.parameters.length) = some 0 := by decide +kernel
theorem hdn_yX8_count : yX8_count.cls ≠ "java/lang/invoke/MethodHandle" ∧ yX8_count.cls ≠ "java/lang/invoke/VarHandle" ∧ (parseMethodDescriptor yX8_count.desc).map (fun d => d.parameters.length) = some 1 := by decide +kernel
theorem hdn_yX8_element : yX8_element.cls ≠ "java/lang/invoke/MethodHandle" ∧ yX8_element.cls ≠ "java/lang/invoke/VarHandle" ∧ (parseMethodDescriptor yX8_element.desc).map (fun d => d.parameters.length) = some 2 := by decide +kernel
theorem hdn_yX8_go : yX8_go.cls ≠ "java/lang/invoke/MethodHandle" ∧ yX8_go.cls ≠ "java/lang/invoke/VarHandle" ∧ (parseMethodDescriptor yX8_go.desc).map (fun d => d.parameters.length) = some 2 := by decide +kernel
theorem hdn_yX8_has : yX8_has.cls ≠ "java/lang/invoke/MethodHandle" ∧ yX8_has.cls ≠ "java/lang/invoke/VarHandle" ∧ (parseMethodDescriptor yX8_has.desc).map (fun d => d.parameters.length) = some 1 := by decide +kernel
theorem hdn_yX8_held : yX8_held.cls ≠ "java/lang/invoke/MethodHandle" ∧ yX8_held.cls ≠ "java/lang/invoke/VarHandle" ∧ (parseMethodDescriptor yX8_held.desc).map (fun d => d.parameters.length) = some 1 := by decide +kernel
theorem hdn_yX8_hold : yX8_hold.cls ≠ "java/lang/invoke/MethodHandle" ∧ yX8_hold.cls ≠ "java/lang/invoke/VarHandle" ∧ (parseMethodDescriptor yX8_hold.desc).map (fun d => d.parameters.length) = some 2 := by decide +kernel
theorem hdn_yX8_index : yX8_index.cls ≠ "java/lang/invoke/MethodHandle" ∧ yX8_index.cls ≠ "java/lang/invoke/VarHandle" ∧ (parseMethodDescriptor yX8_index.desc).map (fun d => d.parameters.length) = some 1 := by decide +kernel
theorem hdn_yX8_init : yX8_init.cls ≠ "java/lang/invoke/MethodHandle" ∧ yX8_init.cls ≠ "java/lang/invoke/VarHandle" ∧ (parseMethodDescriptor yX8_init.desc).map (fun d => d.parameters.length) = some 0 := by decide +kernel
theorem hdn_yX8_isFull : yX8_isFull.cls ≠ "java/lang/invoke/MethodHandle" ∧ yX8_isFull.cls ≠ "java/lang/invoke/VarHandle" ∧ (parseMethodDescriptor yX8_isFull.desc).map (fun d => d.parameters.length) = some 0 := by decide +kernel
theorem hdn_yX8_isUpTo : yX8_isUpTo.cls ≠ "java/lang/invoke/MethodHandle" ∧ yX8_isUpTo.cls ≠ "java/lang/invoke/VarHandle" ∧ (parseMethodDescriptor yX8_isUpTo.desc).map (fun d => d.parameters.length) = some 2 := by decide +kernel
theorem hdn_yX8_liesWithin : yX8_liesWithin.cls ≠ "java/lang/invoke/MethodHandle" ∧ yX8_liesWithin.cls ≠ "java/lang/invoke/VarHandle" ∧ (parseMethodDescriptor yX8_liesWithin.desc).map (fun d => d.parameters.length) = some 2 := by decide +kernel
theorem hdn_yX8_longCode : yX8_longCode.cls ≠ "java/lang/invoke/MethodHandle" ∧ yX8_longCode.cls ≠ "java/lang/invoke/VarHandle" ∧ (parseMethodDescriptor yX8_longCode.desc).map (fun d => d.parameters.length) = some 1 := by decide +kernel
theorem hdn_yX8_miss : yX8_miss.cls ≠ "java/lang/invoke/MethodHandle" ∧ yX8_miss.cls ≠ "java/lang/invoke/VarHandle" ∧ (parseMethodDescriptor yX8_miss.desc).map (fun d => d.parameters.length) = some 1 := by decide +kernel
theorem hdn_yX8_names : yX8_names.cls ≠ "java/lang/invoke/MethodHandle" ∧ yX8_names.cls ≠ "java/lang/invoke/VarHandle" ∧ (parseMethodDescriptor yX8_names.desc).map (fun d => d.parameters.length) = some 3 := by decide +kernel
theorem hdn_yX8_over : yX8_over.cls ≠ "java/lang/invoke/MethodHandle" ∧ yX8_over.cls ≠ "java/lang/invoke/VarHandle" ∧ (parseMethodDescriptor yX8_over.desc).map (fun d => d.parameters.length) = some 1 := by decide +kernel
theorem hdn_yX8_pair : yX8_pair.cls ≠ "java/lang/invoke/MethodHandle" ∧ yX8_pair.cls ≠ "java/lang/invoke/VarHandle" ∧ (parseMethodDescriptor yX8_pair.desc).map (fun d => d.parameters.length) = some 2 := by decide +kernel
theorem hdn_yX8_placeOfHand : yX8_placeOfHand.cls ≠ "java/lang/invoke/MethodHandle" ∧ yX8_placeOfHand.cls ≠ "java/lang/invoke/VarHandle" ∧ (parseMethodDescriptor yX8_placeOfHand.desc).map (fun d => d.parameters.length) = some 1 := by decide +kernel
theorem hdn_yX8_plus : yX8_plus.cls ≠ "java/lang/invoke/MethodHandle" ∧ yX8_plus.cls ≠ "java/lang/invoke/VarHandle" ∧ (parseMethodDescriptor yX8_plus.desc).map (fun d => d.parameters.length) = some 2 := by decide +kernel
theorem hdn_yX8_put : yX8_put.cls ≠ "java/lang/invoke/MethodHandle" ∧ yX8_put.cls ≠ "java/lang/invoke/VarHandle" ∧ (parseMethodDescriptor yX8_put.desc).map (fun d => d.parameters.length) = some 2 := by decide +kernel
theorem hdn_yX8_quotient : yX8_quotient.cls ≠ "java/lang/invoke/MethodHandle" ∧ yX8_quotient.cls ≠ "java/lang/invoke/VarHandle" ∧ (parseMethodDescriptor yX8_quotient.desc).map (fun d => d.parameters.length) = some 2 := by decide +kernel
theorem hdn_yX8_rangeOf : yX8_rangeOf.cls ≠ "java/lang/invoke/MethodHandle" ∧ yX8_rangeOf.cls ≠ "java/lang/invoke/VarHandle" ∧ (parseMethodDescriptor yX8_rangeOf.desc).map (fun d => d.parameters.length) = some 1 := by decide +kernel
theorem hdn_yX8_signs : yX8_signs.cls ≠ "java/lang/invoke/MethodHandle" ∧ yX8_signs.cls ≠ "java/lang/invoke/VarHandle" ∧ (parseMethodDescriptor yX8_signs.desc).map (fun d => d.parameters.length) = some 2 := by decide +kernel
theorem hdn_yX8_size : yX8_size.cls ≠ "java/lang/invoke/MethodHandle" ∧ yX8_size.cls ≠ "java/lang/invoke/VarHandle" ∧ (parseMethodDescriptor yX8_size.desc).map (fun d => d.parameters.length) = some 1 := by decide +kernel
theorem hdn_yX8_steps : yX8_steps.cls ≠ "java/lang/invoke/MethodHandle" ∧ yX8_steps.cls ≠ "java/lang/invoke/VarHandle" ∧ (parseMethodDescriptor yX8_steps.desc).map (fun d => d.parameters.length) = some 3 := by decide +kernel
theorem hdn_yX8_sum : yX8_sum.cls ≠ "java/lang/invoke/MethodHandle" ∧ yX8_sum.cls ≠ "java/lang/invoke/VarHandle" ∧ (parseMethodDescriptor yX8_sum.desc).map (fun d => d.parameters.length) = some 3 := by decide +kernel
theorem hdn_yX8_times : yX8_times.cls ≠ "java/lang/invoke/MethodHandle" ∧ yX8_times.cls ≠ "java/lang/invoke/VarHandle" ∧ (parseMethodDescriptor yX8_times.desc).map (fun d => d.parameters.length) = some 2 := by decide +kernel
theorem hdn_yX8_told : yX8_told.cls ≠ "java/lang/invoke/MethodHandle" ∧ yX8_told.cls ≠ "java/lang/invoke/VarHandle" ∧ (parseMethodDescriptor yX8_told.desc).map (fun d => d.parameters.length) = some 2 := by decide +kernel
theorem hdn_yX8_triple : yX8_triple.cls ≠ "java/lang/invoke/MethodHandle" ∧ yX8_triple.cls ≠ "java/lang/invoke/VarHandle" ∧ (parseMethodDescriptor yX8_triple.desc).map (fun d => d.parameters.length) = some 3 := by decide +kernel
theorem hdn_yX8_wholes : yX8_wholes.cls ≠ "java/lang/invoke/MethodHandle" ∧ yX8_wholes.cls ≠ "java/lang/invoke/VarHandle" ∧ (parseMethodDescriptor yX8_wholes.desc).map (fun d => d.parameters.length) = some 2 := by decide +kernel
theorem hdn_yX8_within : yX8_within.cls ≠ "java/lang/invoke/MethodHandle" ∧ yX8_within.cls ≠ "java/lang/invoke/VarHandle" ∧ (parseMethodDescriptor yX8_within.desc).map (fun d => d.parameters.length) = some 2 := by decide +kernel
theorem hdn_yX9_addSingle : yX9_addSingle.cls ≠ "java/lang/invoke/MethodHandle" ∧ yX9_addSingle.cls ≠ "java/lang/invoke/VarHandle" ∧ (parseMethodDescriptor yX9_addSingle.desc).map (fun d => d.parameters.length) = some 4 := by decide +kernel
theorem hdn_yX9_array : yX9_array.cls ≠ "java/lang/invoke/MethodHandle" ∧ yX9_array.cls ≠ "java/lang/invoke/VarHandle" ∧ (parseMethodDescriptor yX9_array.desc).map (fun d => d.parameters.length) = some 1 := by decide +kernel
theorem hdn_yX9_at : yX9_at.cls ≠ "java/lang/invoke/MethodHandle" ∧ yX9_at.cls ≠ "java/lang/invoke/VarHandle" ∧ (parseMethodDescriptor yX9_at.desc).map (fun d => d.parameters.length) = some 1 := by decide +kernel
theorem hdn_yX9_back : yX9_back.cls ≠ "java/lang/invoke/MethodHandle" ∧ yX9_back.cls ≠ "java/lang/invoke/VarHandle" ∧ (parseMethodDescriptor yX9_back.desc).map (fun d => d.parameters.length) = some 1 := by decide +kernel
theorem hdn_yX9_begin : yX9_begin.cls ≠ "java/lang/invoke/MethodHandle" ∧ yX9_begin.cls ≠ "java/lang/invoke/VarHandle" ∧ (parseMethodDescriptor yX9_begin.desc).map (fun d => d.parameters.length) = some 3 := by decide +kernel
theorem hdn_yX9_cellOf : yX9_cellOf.cls ≠ "java/lang/invoke/MethodHandle" ∧ yX9_cellOf.cls ≠ "java/lang/invoke/VarHandle" ∧ (parseMethodDescriptor yX9_cellOf.desc).map (fun d => d.parameters.length) = some 1 := by decide +kernel
theorem hdn_yX9_clear : yX9_clear.cls ≠ "java/lang/invoke/MethodHandle" ∧ yX9_clear.cls ≠ "java/lang/invoke/VarHandle" ∧ (parseMethodDescriptor yX9_clear.desc).map (fun d => d.parameters.length) = some 0 := by decide +kernel
theorem hdn_yX9_count : yX9_count.cls ≠ "java/lang/invoke/MethodHandle" ∧ yX9_count.cls ≠ "java/lang/invoke/VarHandle" ∧ (parseMethodDescriptor yX9_count.desc).map (fun d => d.parameters.length) = some 1 := by decide +kernel
theorem hdn_yX9_element : yX9_element.cls ≠ "java/lang/invoke/MethodHandle" ∧ yX9_element.cls ≠ "java/lang/invoke/VarHandle" ∧ (parseMethodDescriptor yX9_element.desc).map (fun d => d.parameters.length) = some 2 := by decide +kernel
theorem hdn_yX9_go : yX9_go.cls ≠ "java/lang/invoke/MethodHandle" ∧ yX9_go.cls ≠ "java/lang/invoke/VarHandle" ∧ (parseMethodDescriptor yX9_go.desc).map (fun d => d.parameters.length) = some 2 := by decide +kernel
theorem hdn_yX9_has : yX9_has.cls ≠ "java/lang/invoke/MethodHandle" ∧ yX9_has.cls ≠ "java/lang/invoke/VarHandle" ∧ (parseMethodDescriptor yX9_has.desc).map (fun d => d.parameters.length) = some 1 := by decide +kernel
theorem hdn_yX9_hasNumber : yX9_hasNumber.cls ≠ "java/lang/invoke/MethodHandle" ∧ yX9_hasNumber.cls ≠ "java/lang/invoke/VarHandle" ∧ (parseMethodDescriptor yX9_hasNumber.desc).map (fun d => d.parameters.length) = some 2 := by decide +kernel
theorem hdn_yX9_hasPlace : yX9_hasPlace.cls ≠ "java/lang/invoke/MethodHandle" ∧ yX9_hasPlace.cls ≠ "java/lang/invoke/VarHandle" ∧ (parseMethodDescriptor yX9_hasPlace.desc).map (fun d => d.parameters.length) = some 2 := by decide +kernel
theorem hdn_yX9_held : yX9_held.cls ≠ "java/lang/invoke/MethodHandle" ∧ yX9_held.cls ≠ "java/lang/invoke/VarHandle" ∧ (parseMethodDescriptor yX9_held.desc).map (fun d => d.parameters.length) = some 1 := by decide +kernel
theorem hdn_yX9_hold : yX9_hold.cls ≠ "java/lang/invoke/MethodHandle" ∧ yX9_hold.cls ≠ "java/lang/invoke/VarHandle" ∧ (parseMethodDescriptor yX9_hold.desc).map (fun d => d.parameters.length) = some 2 := by decide +kernel
theorem hdn_yX9_in : yX9_in.cls ≠ "java/lang/invoke/MethodHandle" ∧ yX9_in.cls ≠ "java/lang/invoke/VarHandle" ∧ (parseMethodDescriptor yX9_in.desc).map (fun d => d.parameters.length) = some 3 := by decide +kernel
theorem hdn_yX9_index : yX9_index.cls ≠ "java/lang/invoke/MethodHandle" ∧ yX9_index.cls ≠ "java/lang/invoke/VarHandle" ∧ (parseMethodDescriptor yX9_index.desc).map (fun d => d.parameters.length) = some 1 := by decide +kernel
theorem hdn_yX9_init : yX9_init.cls ≠ "java/lang/invoke/MethodHandle" ∧ yX9_init.cls ≠ "java/lang/invoke/VarHandle" ∧ (parseMethodDescriptor yX9_init.desc).map (fun d => d.parameters.length) = some 0 := by decide +kernel
theorem hdn_yX9_isHeld : yX9_isHeld.cls ≠ "java/lang/invoke/MethodHandle" ∧ yX9_isHeld.cls ≠ "java/lang/invoke/VarHandle" ∧ (parseMethodDescriptor yX9_isHeld.desc).map (fun d => d.parameters.length) = some 1 := by decide +kernel
theorem hdn_yX9_lastOf : yX9_lastOf.cls ≠ "java/lang/invoke/MethodHandle" ∧ yX9_lastOf.cls ≠ "java/lang/invoke/VarHandle" ∧ (parseMethodDescriptor yX9_lastOf.desc).map (fun d => d.parameters.length) = some 1 := by decide +kernel
theorem hdn_yX9_lay : yX9_lay.cls ≠ "java/lang/invoke/MethodHandle" ∧ yX9_lay.cls ≠ "java/lang/invoke/VarHandle" ∧ (parseMethodDescriptor yX9_lay.desc).map (fun d => d.parameters.length) = some 3 := by decide +kernel
theorem hdn_yX9_leftOver : yX9_leftOver.cls ≠ "java/lang/invoke/MethodHandle" ∧ yX9_leftOver.cls ≠ "java/lang/invoke/VarHandle" ∧ (parseMethodDescriptor yX9_leftOver.desc).map (fun d => d.parameters.length) = some 3 := by decide +kernel
theorem hdn_yX9_liesIn : yX9_liesIn.cls ≠ "java/lang/invoke/MethodHandle" ∧ yX9_liesIn.cls ≠ "java/lang/invoke/VarHandle" ∧ (parseMethodDescriptor yX9_liesIn.desc).map (fun d => d.parameters.length) = some 2 := by decide +kernel
theorem hdn_yX9_miss : yX9_miss.cls ≠ "java/lang/invoke/MethodHandle" ∧ yX9_miss.cls ≠ "java/lang/invoke/VarHandle" ∧ (parseMethodDescriptor yX9_miss.desc).map (fun d => d.parameters.length) = some 1 := by decide +kernel
theorem hdn_yX9_names : yX9_names.cls ≠ "java/lang/invoke/MethodHandle" ∧ yX9_names.cls ≠ "java/lang/invoke/VarHandle" ∧ (parseMethodDescriptor yX9_names.desc).map (fun d => d.parameters.length) = some 3 := by decide +kernel
theorem hdn_yX9_noArray : yX9_noArray.cls ≠ "java/lang/invoke/MethodHandle" ∧ yX9_noArray.cls ≠ "java/lang/invoke/VarHandle" ∧ (parseMethodDescriptor yX9_noArray.desc).map (fun d => d.parameters.length) = some 1 := by decide +kernel
theorem hdn_yX9_noRange : yX9_noRange.cls ≠ "java/lang/invoke/MethodHandle" ∧ yX9_noRange.cls ≠ "java/lang/invoke/VarHandle" ∧ (parseMethodDescriptor yX9_noRange.desc).map (fun d => d.parameters.length) = some 1 := by decide +kernel
theorem hdn_yX9_numberAt : yX9_numberAt.cls ≠ "java/lang/invoke/MethodHandle" ∧ yX9_numberAt.cls ≠ "java/lang/invoke/VarHandle" ∧ (parseMethodDescriptor yX9_numberAt.desc).map (fun d => d.parameters.length) = some 2 := by decide +kernel
theorem hdn_yX9_over : yX9_over.cls ≠ "java/lang/invoke/MethodHandle" ∧ yX9_over.cls ≠ "java/lang/invoke/VarHandle" ∧ (parseMethodDescriptor yX9_over.desc).map (fun d => d.parameters.length) = some 1 := by decide +kernel
theorem hdn_yX9_pair : yX9_pair.cls ≠ "java/lang/invoke/MethodHandle" ∧ yX9_pair.cls ≠ "java/lang/invoke/VarHandle" ∧ (parseMethodDescriptor yX9_pair.desc).map (fun d => d.parameters.length) = some 2 := by decide +kernel
theorem hdn_yX9_place : yX9_place.cls ≠ "java/lang/invoke/MethodHandle" ∧ yX9_place.cls ≠ "java/lang/invoke/VarHandle" ∧ (parseMethodDescriptor yX9_place.desc).map (fun d => d.parameters.length) = some 1 := by decide +kernel
theorem hdn_yX9_placeOf : yX9_placeOf.cls ≠ "java/lang/invoke/MethodHandle" ∧ yX9_placeOf.cls ≠ "java/lang/invoke/VarHandle" ∧ (parseMethodDescriptor yX9_placeOf.desc).map (fun d => d.parameters.length) = some 2 := by decide +kernel
theorem hdn_yX9_put : yX9_put.cls ≠ "java/lang/invoke/MethodHandle" ∧ yX9_put.cls ≠ "java/lang/invoke/VarHandle" ∧ (parseMethodDescriptor yX9_put.desc).map (fun d => d.parameters.length) = some 2 := by decide +kernel
theorem hdn_yX9_signs : yX9_signs.cls ≠ "java/lang/invoke/MethodHandle" ∧ yX9_signs.cls ≠ "java/lang/invoke/VarHandle" ∧ (parseMethodDescriptor yX9_signs.desc).map (fun d => d.parameters.length) = some 2 := by decide +kernel
theorem hdn_yX9_singleSize : yX9_singleSize.cls ≠ "java/lang/invoke/MethodHandle" ∧ yX9_singleSize.cls ≠ "java/lang/invoke/VarHandle" ∧ (parseMethodDescriptor yX9_singleSize.desc).map (fun d => d.parameters.length) = some 1 := by decide +kernel
theorem hdn_yX9_size : yX9_size.cls ≠ "java/lang/invoke/MethodHandle" ∧ yX9_size.cls ≠ "java/lang/invoke/VarHandle" ∧ (parseMethodDescriptor yX9_size.desc).map (fun d => d.parameters.length) = some 1 := by decide +kernel
theorem hdn_yX9_sizeOf : yX9_sizeOf.cls ≠ "java/lang/invoke/MethodHandle" ∧ yX9_sizeOf.cls ≠ "java/lang/invoke/VarHandle" ∧ (parseMethodDescriptor yX9_sizeOf.desc).map (fun d => d.parameters.length) = some 1 := by decide +kernel
theorem hdn_yX9_steps : yX9_steps.cls ≠ "java/lang/invoke/MethodHandle" ∧ yX9_steps.cls ≠ "java/lang/invoke/VarHandle" ∧ (parseMethodDescriptor yX9_steps.desc).map (fun d => d.parameters.length) = some 3 := by decide +kernel
theorem hdn_yX9_stepsUp : yX9_stepsUp.cls ≠ "java/lang/invoke/MethodHandle" ∧ yX9_stepsUp.cls ≠ "java/lang/invoke/VarHandle" ∧ (parseMethodDescriptor yX9_stepsUp.desc).map (fun d => d.parameters.length) = some 3 := by decide +kernel
theorem hdn_yX9_sum : yX9_sum.cls ≠ "java/lang/invoke/MethodHandle" ∧ yX9_sum.cls ≠ "java/lang/invoke/VarHandle" ∧ (parseMethodDescriptor yX9_sum.desc).map (fun d => d.parameters.length) = some 3 := by decide +kernel
theorem hdn_yX9_take : yX9_take.cls ≠ "java/lang/invoke/MethodHandle" ∧ yX9_take.cls ≠ "java/lang/invoke/VarHandle" ∧ (parseMethodDescriptor yX9_take.desc).map (fun d => d.parameters.length) = some 4 := by decide +kernel
theorem hdn_yX9_thrown : yX9_thrown.cls ≠ "java/lang/invoke/MethodHandle" ∧ yX9_thrown.cls ≠ "java/lang/invoke/VarHandle" ∧ (parseMethodDescriptor yX9_thrown.desc).map (fun d => d.parameters.length) = some 0 := by decide +kernel
theorem hdn_yX9_times : yX9_times.cls ≠ "java/lang/invoke/MethodHandle" ∧ yX9_times.cls ≠ "java/lang/invoke/VarHandle" ∧ (parseMethodDescriptor yX9_times.desc).map (fun d => d.parameters.length) = some 2 := by decide +kernel
theorem hdn_yX9_told : yX9_told.cls ≠ "java/lang/invoke/MethodHandle" ∧ yX9_told.cls ≠ "java/lang/invoke/VarHandle" ∧ (parseMethodDescriptor yX9_told.desc).map (fun d => d.parameters.length) = some 2 := by decide +kernel
theorem hdn_yX9_triple : yX9_triple.cls ≠ "java/lang/invoke/MethodHandle" ∧ yX9_triple.cls ≠ "java/lang/invoke/VarHandle" ∧ (parseMethodDescriptor yX9_triple.desc).map (fun d => d.parameters.length) = some 3 := by decide +kernel
theorem hdn_yX9_wholes : yX9_wholes.cls ≠ "java/lang/invoke/MethodHandle" ∧ yX9_wholes.cls ≠ "java/lang/invoke/VarHandle" ∧ (parseMethodDescriptor yX9_wholes.desc).map (fun d => d.parameters.length) = some 2 := by decide +kernel
theorem hdn_yX9_within : yX9_within.cls ≠ "java/lang/invoke/MethodHandle" ∧ yX9_within.cls ≠ "java/lang/invoke/VarHandle" ∧ (parseMethodDescriptor yX9_within.desc).map (fun d => d.parameters.length) = some 2 := by decide +kernel
theorem hdn_yJ7_fill_53178 : yJ7_fill_53178.cls ≠ "java/lang/invoke/MethodHandle" ∧ yJ7_fill_53178.cls ≠ "java/lang/invoke/VarHandle" ∧ (parseMethodDescriptor yJ7_fill_53178.desc).map (fun d => d.parameters.length) = some 2 := by decide +kernel
theorem hdn_yJ7_fill_d0a16 : yJ7_fill_d0a16.cls ≠ "java/lang/invoke/MethodHandle" ∧ yJ7_fill_d0a16.cls ≠ "java/lang/invoke/VarHandle" ∧ (parseMethodDescriptor yJ7_fill_d0a16.desc).map (fun d => d.parameters.length) = some 2 := by decide +kernel
theorem hdn_xR_place : RX5 ≠ "java/lang/invoke/MethodHandle" ∧ RX5 ≠ "java/lang/invoke/VarHandle" ∧ (parseMethodDescriptor xR_place.desc).map (fun d => d.parameters.length) = some 4 := by decide +kernel
theorem hdn_xR_fill : RX5 ≠ "java/lang/invoke/MethodHandle" ∧ RX5 ≠ "java/lang/invoke/VarHandle" ∧ (parseMethodDescriptor xR_fill.desc).map (fun d => d.parameters.length) = some 3 := by decide +kernel
theorem hdn_xR_singleAt : RX5 ≠ "java/lang/invoke/MethodHandle" ∧ RX5 ≠ "java/lang/invoke/VarHandle" ∧ (parseMethodDescriptor xR_singleAt.desc).map (fun d => d.parameters.length) = some 1 := by decide +kernel
theorem hdn_xR_madeOf : RX5 ≠ "java/lang/invoke/MethodHandle" ∧ RX5 ≠ "java/lang/invoke/VarHandle" ∧ (parseMethodDescriptor xR_madeOf.desc).map (fun d => d.parameters.length) = some 0 := by decide +kernel
theorem hdn_xS_placeOf : RX7 ≠ "java/lang/invoke/MethodHandle" ∧ RX7 ≠ "java/lang/invoke/VarHandle" ∧ (parseMethodDescriptor xS_placeOf.desc).map (fun d => d.parameters.length) = some 1 := by decide +kernel
theorem hdn_xS_valueAt : RX7 ≠ "java/lang/invoke/MethodHandle" ∧ RX7 ≠ "java/lang/invoke/VarHandle" ∧ (parseMethodDescriptor xS_valueAt.desc).map (fun d => d.parameters.length) = some 1 := by decide +kernel
theorem hdn_xS_liesIn : RX7 ≠ "java/lang/invoke/MethodHandle" ∧ RX7 ≠ "java/lang/invoke/VarHandle" ∧ (parseMethodDescriptor xS_liesIn.desc).map (fun d => d.parameters.length) = some 1 := by decide +kernel
theorem vp_in_c {k m : Int32} {n : Nat} (hm : m.toInt = (n : Int)) (h0 : ¬ k < 0) (h1 : ¬ m ≤ k) : vp_in k n := by
  rw [vp_in_iff]
  rw [Int32.lt_iff_toInt_lt] at h0
  rw [Int32.le_iff_toInt_le, hm] at h1
  have e : (0 : Int32).toInt = 0 := rfl
  rw [e] at h0
  omega
def lookC (g : Nat → Int64) (k : Int32) : Int64 := if k < (0 : Int32) then ((0 : Int64)) else if (8 : Int32) ≤ k then ((0 : Int64)) else (g k.toNatClampNeg)
set_option maxHeartbeats 4000000 in
set_option maxRecDepth 100000 in
theorem c_look (l : Launch) (D : va_G) (B : Nat) (K : Nat → ClassId) (f : St) (a0 : Nat) (g : Nat → Int64) (k : Int32) (ha : Nat) (h0 : f a0 = some (.inr (2, [.ref ha]))) (h1 : f ha = some (.inl (K 1, 8, .inr (.inl g)))) : Kc l D B K yX2_look cX2_look 2 (some .long) 0 0 0 [.ref a0, .int k] f (Ql_ D B (fun r f9 => r = lookC g k ∧ f9 = f)) := by
  refine v_met [(0, .ref a0), (1, .int k)] (by decide) (Nat.le_of_ble_eq_true rfl) rfl ?_
  intro p e s m args below meth c C hr hlk hin
  refine v_iload_n C dX2_look_0 rfl rfl ?_
  refine v_if_lt (tgt := 19) C dX2_look_1 (by decide) (fun c_1 => ?_) (fun c_1 => ?_)
  · refine v_lconst (v := 0) C dX2_look_19 (by decide) ?_
    exact v_lret C hr hlk dX2_look_20 (Nat.le_refl _) (Nat.le_refl _) ⟨by unfold lookC; rw [if_pos c_1], rfl⟩
  · refine v_iload_n C dX2_look_4 rfl rfl ?_
    refine v_bipush (v := 8) C dX2_look_5 (by decide) ?_
    refine v_icmp_ge (tgt := 19) C dX2_look_7 (by decide) (fun c_7 => ?_) (fun c_7 => ?_)
    · refine v_lconst (v := 0) C dX2_look_19 (by decide) ?_
      exact v_lret C hr hlk dX2_look_20 (Nat.le_refl _) (Nat.le_refl _) ⟨by unfold lookC; rw [if_neg c_1, if_pos c_7], rfl⟩
    · refine v_aload_n C dX2_look_10 rfl rfl ?_
      refine v_get C dX2_look_11 0 h0 rfl in_X2 (by decide) g_fl_X2_9 (fun _ h9 => h9) rfl ?_
      refine v_iload_n C dX2_look_14 rfl rfl ?_
      refine v_lald C dX2_look_15 h1 (vp_in_c rfl c_1 c_7) ?_
      refine v_goto (tgt := 20) C dX2_look_16 (by decide) ?_
      exact v_lret C hr hlk dX2_look_20 (Nat.le_refl _) (Nat.le_refl _) ⟨by unfold lookC; rw [if_neg c_1, if_neg c_7], rfl⟩

def npC (sz : Int64) (ar : Int32) (fi : Int32) (v : Int64) : Int64 := if v < (0 : Int64) then ((-2 : Int64)) else if v < ar.toInt64 then if v < fi.toInt64 then if sz ≤ ((v - fi.toInt64) + ar.toInt64) then ((-2 : Int64)) else ((v - fi.toInt64) + ar.toInt64) else if sz ≤ (v - fi.toInt64) then ((-2 : Int64)) else (v - fi.toInt64) else ((-2 : Int64))
set_option maxHeartbeats 4000000 in
set_option maxRecDepth 100000 in
theorem c_Names_placeOf (l : Launch) (D : va_G) (B : Nat) (K : Nat → ClassId) (f : St) (a0 : Nat) (sz : Int64) (ar : Int32) (fi : Int32) (v : Int64) (num kd : Int32) (h0 : f a0 = some (.inr (4, [.int num, .int kd, .int 1, .long sz, .int ar, .int fi]))) : Kc l D B K yX4_placeOf cX4_placeOf 5 (some .long) 0 0 0 [.ref a0, .long v] f (Ql_ D B (fun r f9 => r = npC sz ar fi v ∧ f9 = f)) := by
  refine v_met [(0, .ref a0), (1, .long v)] (by decide) (Nat.le_of_ble_eq_true rfl) rfl ?_
  intro p e s m args below meth c C hr hlk hin
  refine v_lload_n C dX4_placeOf_0 rfl rfl ?_
  refine v_lconst (v := 0) C dX4_placeOf_1 (by decide) ?_
  refine v_lc_lt (tgt := 16) C dX4_placeOf_2 dX4_placeOf_3 (by decide) (fun c_2 => ?_) (fun c_2 => ?_)
  · refine v_ldc2 C dX4_placeOf_16 g_kl_X4_18 ?_
    exact v_lret C hr hlk dX4_placeOf_19 (Nat.le_refl _) (Nat.le_refl _) ⟨by unfold npC; rw [if_pos c_2], rfl⟩
  · refine v_lload_n C dX4_placeOf_6 rfl rfl ?_
    refine v_aload_n C dX4_placeOf_7 rfl rfl ?_
    refine v_get C dX4_placeOf_8 4 h0 rfl in_X4 (by decide) g_fl_X4_9 (fun _ h9 => h9) rfl ?_
    refine v_i2l C dX4_placeOf_11 ?_
    refine v_lc_lt (tgt := 20) C dX4_placeOf_12 dX4_placeOf_13 (by decide) (fun c_12 => ?_) (fun c_12 => ?_)
    · refine v_lload_n C dX4_placeOf_20 rfl rfl ?_
      refine v_aload_n C dX4_placeOf_21 rfl rfl ?_
      refine v_get C dX4_placeOf_22 5 h0 rfl in_X4 (by decide) g_fl_X4_15 (fun _ h9 => h9) rfl ?_
      refine v_i2l C dX4_placeOf_25 ?_
      refine v_lc_lt (tgt := 40) C dX4_placeOf_26 dX4_placeOf_27 (by decide) (fun c_26 => ?_) (fun c_26 => ?_)
      · refine v_lload_n C dX4_placeOf_40 rfl rfl ?_
        refine v_aload_n C dX4_placeOf_41 rfl rfl ?_
        refine v_get C dX4_placeOf_42 5 h0 rfl in_X4 (by decide) g_fl_X4_15 (fun _ h9 => h9) rfl ?_
        refine v_i2l C dX4_placeOf_45 ?_
        refine v_lsub C dX4_placeOf_46 ?_
        refine v_aload_n C dX4_placeOf_47 rfl rfl ?_
        refine v_get C dX4_placeOf_48 4 h0 rfl in_X4 (by decide) g_fl_X4_9 (fun _ h9 => h9) rfl ?_
        refine v_i2l C dX4_placeOf_51 ?_
        refine v_ladd C dX4_placeOf_52 ?_
        refine v_lstore_n C dX4_placeOf_53 rfl (by decide) rfl ?_
        refine v_lload_n C dX4_placeOf_54 rfl rfl ?_
        refine v_aload_n C dX4_placeOf_55 rfl rfl ?_
        refine v_get C dX4_placeOf_56 3 h0 rfl in_X4 (by decide) g_fl_X4_20 (fun x9 h9 => u_same (C.2.2.2.2.1 _ g_sf_X4_size) x9 h9) rfl ?_
        refine v_lc_ge (tgt := 67) C dX4_placeOf_59 dX4_placeOf_60 (by decide) (fun c_59 => ?_) (fun c_59 => ?_)
        · refine v_ldc2 C dX4_placeOf_67 g_kl_X4_18 ?_
          exact v_lret C hr hlk dX4_placeOf_70 (Nat.le_refl _) (Nat.le_refl _) ⟨by unfold npC; rw [if_neg c_2, if_pos c_12, if_pos c_26, if_pos c_59], rfl⟩
        · refine v_lload_n C dX4_placeOf_63 rfl rfl ?_
          refine v_goto (tgt := 70) C dX4_placeOf_64 (by decide) ?_
          exact v_lret C hr hlk dX4_placeOf_70 (Nat.le_refl _) (Nat.le_refl _) ⟨by unfold npC; rw [if_neg c_2, if_pos c_12, if_pos c_26, if_neg c_59], rfl⟩
      · refine v_lload_n C dX4_placeOf_30 rfl rfl ?_
        refine v_aload_n C dX4_placeOf_31 rfl rfl ?_
        refine v_get C dX4_placeOf_32 5 h0 rfl in_X4 (by decide) g_fl_X4_15 (fun _ h9 => h9) rfl ?_
        refine v_i2l C dX4_placeOf_35 ?_
        refine v_lsub C dX4_placeOf_36 ?_
        refine v_goto (tgt := 53) C dX4_placeOf_37 (by decide) ?_
        refine v_lstore_n C dX4_placeOf_53 rfl (by decide) rfl ?_
        refine v_lload_n C dX4_placeOf_54 rfl rfl ?_
        refine v_aload_n C dX4_placeOf_55 rfl rfl ?_
        refine v_get C dX4_placeOf_56 3 h0 rfl in_X4 (by decide) g_fl_X4_20 (fun x9 h9 => u_same (C.2.2.2.2.1 _ g_sf_X4_size) x9 h9) rfl ?_
        refine v_lc_ge (tgt := 67) C dX4_placeOf_59 dX4_placeOf_60 (by decide) (fun c_59 => ?_) (fun c_59 => ?_)
        · refine v_ldc2 C dX4_placeOf_67 g_kl_X4_18 ?_
          exact v_lret C hr hlk dX4_placeOf_70 (Nat.le_refl _) (Nat.le_refl _) ⟨by unfold npC; rw [if_neg c_2, if_pos c_12, if_neg c_26, if_pos c_59], rfl⟩
        · refine v_lload_n C dX4_placeOf_63 rfl rfl ?_
          refine v_goto (tgt := 70) C dX4_placeOf_64 (by decide) ?_
          exact v_lret C hr hlk dX4_placeOf_70 (Nat.le_refl _) (Nat.le_refl _) ⟨by unfold npC; rw [if_neg c_2, if_pos c_12, if_neg c_26, if_neg c_59], rfl⟩
    · refine v_ldc2 C dX4_placeOf_16 g_kl_X4_18 ?_
      exact v_lret C hr hlk dX4_placeOf_19 (Nat.le_refl _) (Nat.le_refl _) ⟨by unfold npC; rw [if_neg c_2, if_neg c_12], rfl⟩

def nvC (sz : Int64) (ar : Int32) (fi : Int32) (k : Int64) : Int64 := if ar.toInt64 ≤ (fi.toInt64 + k) then ((fi.toInt64 + k) - ar.toInt64) else (fi.toInt64 + k)
set_option maxHeartbeats 4000000 in
set_option maxRecDepth 100000 in
theorem c_Names_valueAt (l : Launch) (D : va_G) (B : Nat) (K : Nat → ClassId) (f : St) (a0 : Nat) (sz : Int64) (ar : Int32) (fi : Int32) (k : Int64) (num kd : Int32) (h0 : f a0 = some (.inr (4, [.int num, .int kd, .int 1, .long sz, .int ar, .int fi]))) : Kc l D B K yX4_valueAt cX4_valueAt 5 (some .long) 0 0 0 [.ref a0, .long k] f (Ql_ D B (fun r f9 => r = nvC sz ar fi k ∧ f9 = f)) := by
  refine v_met [(0, .ref a0), (1, .long k)] (by decide) (Nat.le_of_ble_eq_true rfl) rfl ?_
  intro p e s m args below meth c C hr hlk hin
  refine v_aload_n C dX4_valueAt_0 rfl rfl ?_
  refine v_get C dX4_valueAt_1 5 h0 rfl in_X4 (by decide) g_fl_X4_15 (fun _ h9 => h9) rfl ?_
  refine v_i2l C dX4_valueAt_4 ?_
  refine v_lload_n C dX4_valueAt_5 rfl rfl ?_
  refine v_ladd C dX4_valueAt_6 ?_
  refine v_lstore_n C dX4_valueAt_7 rfl (by decide) rfl ?_
  refine v_lload_n C dX4_valueAt_8 rfl rfl ?_
  refine v_aload_n C dX4_valueAt_9 rfl rfl ?_
  refine v_get C dX4_valueAt_10 4 h0 rfl in_X4 (by decide) g_fl_X4_9 (fun _ h9 => h9) rfl ?_
  refine v_i2l C dX4_valueAt_13 ?_
  refine v_lc_ge (tgt := 22) C dX4_valueAt_14 dX4_valueAt_15 (by decide) (fun c_14 => ?_) (fun c_14 => ?_)
  · refine v_lload_n C dX4_valueAt_22 rfl rfl ?_
    refine v_aload_n C dX4_valueAt_23 rfl rfl ?_
    refine v_get C dX4_valueAt_24 4 h0 rfl in_X4 (by decide) g_fl_X4_9 (fun _ h9 => h9) rfl ?_
    refine v_i2l C dX4_valueAt_27 ?_
    refine v_lsub C dX4_valueAt_28 ?_
    exact v_lret C hr hlk dX4_valueAt_29 (Nat.le_refl _) (Nat.le_refl _) ⟨by unfold nvC; rw [if_pos c_14], rfl⟩
  · refine v_lload_n C dX4_valueAt_18 rfl rfl ?_
    refine v_goto (tgt := 29) C dX4_valueAt_19 (by decide) ?_
    exact v_lret C hr hlk dX4_valueAt_29 (Nat.le_refl _) (Nat.le_refl _) ⟨by unfold nvC; rw [if_neg c_14], rfl⟩

def rpC (sz : Int64) (fi : Int64) (la : Int64) (sp : Int32) (v : Int64) : Int64 := if sp ≤ (0 : Int32) then if fi < v then if sz = (0 : Int64) then ((-2 : Int64)) else ((-2 : Int64)) else if la ≤ v then if sz = (0 : Int64) then ((-2 : Int64)) else if ((quC (fi - v) ((-sp).toInt64)) * ((-sp).toInt64)) = (fi - v) then if (0 : Int64) ≤ (quC (fi - v) ((-sp).toInt64)) then (quC (fi - v) ((-sp).toInt64)) else ((-1 : Int64)) else ((-2 : Int64)) else if sz = (0 : Int64) then ((-2 : Int64)) else ((-2 : Int64)) else if v < fi then if sz = (0 : Int64) then ((-2 : Int64)) else ((-2 : Int64)) else if v ≤ la then if sz = (0 : Int64) then ((-2 : Int64)) else if ((quC (v - fi) sp.toInt64) * sp.toInt64) = (v - fi) then if (0 : Int64) ≤ (quC (v - fi) sp.toInt64) then (quC (v - fi) sp.toInt64) else ((-1 : Int64)) else ((-2 : Int64)) else if sz = (0 : Int64) then ((-2 : Int64)) else ((-2 : Int64))
set_option maxHeartbeats 4000000 in
set_option maxRecDepth 100000 in
theorem c_Row_placeOf (l : Launch) (D : va_G) (B : Nat) (K : Nat → ClassId) (f : St) (a0 : Nat) (sz : Int64) (fi : Int64) (la : Int64) (sp : Int32) (v : Int64) (num kd : Int32) (h0 : f a0 = some (.inr (5, [.int num, .int kd, .int 1, .long sz, .long fi, .long la, .int sp]))) : Kc l D B K yX6_placeOf cX6_placeOf 11 (some .long) 1 0 0 [.ref a0, .long v] f (Ql_ D B (fun r f9 => r = rpC sz fi la sp v ∧ f9 = f)) := by
  refine v_met [(0, .ref a0), (1, .long v)] (by decide) (Nat.le_of_ble_eq_true rfl) rfl ?_
  intro p e s m args below meth c C hr hlk hin
  refine v_aload_n C dX6_placeOf_0 rfl rfl ?_
  refine v_get C dX6_placeOf_1 6 h0 rfl in_X6 (by decide) g_fl_X6_18 (fun _ h9 => h9) rfl ?_
  refine v_if_le (tgt := 11) C dX6_placeOf_4 (by decide) (fun c_4 => ?_) (fun c_4 => ?_)
  · refine v_iconst (v := 0) C dX6_placeOf_11 (by decide) ?_
    refine v_istore_n C dX6_placeOf_12 rfl (by decide) rfl ?_
    refine v_iload_n C dX6_placeOf_13 rfl rfl ?_
    refine v_if_eq (tgt := 43) C dX6_placeOf_14 (by decide) (fun _ => ?_) (fun c_14 => absurd c_14 (by decide))
    refine v_lload_n C dX6_placeOf_43 rfl rfl ?_
    refine v_aload_n C dX6_placeOf_44 rfl rfl ?_
    refine v_get C dX6_placeOf_45 4 h0 rfl in_X6 (by decide) g_fl_X6_9 (fun _ h9 => h9) rfl ?_
    refine v_lc_gt (tgt := 61) C dX6_placeOf_48 dX6_placeOf_49 (by decide) (fun c_48 => ?_) (fun c_48 => ?_)
    · refine v_iconst (v := 1) C dX6_placeOf_61 (by decide) ?_
      refine v_goto (tgt := 66) C dX6_placeOf_62 (by decide) ?_
      refine v_istore C dX6_placeOf_66 (by decide) rfl ?_
      refine v_aload_n C dX6_placeOf_68 rfl rfl ?_
      refine v_get C dX6_placeOf_69 3 h0 rfl in_X6 (by decide) g_fl_X6_22 (fun x9 h9 => u_same (C.2.2.2.2.1 _ g_sf_X6_size) x9 h9) rfl ?_
      refine v_lconst (v := 0) C dX6_placeOf_72 (by decide) ?_
      refine v_lc_eq (tgt := 82) C dX6_placeOf_73 dX6_placeOf_74 (by decide) (fun c_73 => ?_) (fun c_73 => ?_)
      · refine v_ldc2 C dX6_placeOf_82 g_kl_X6_25 ?_
        exact v_lret C hr hlk dX6_placeOf_85 (Nat.le_refl _) (Nat.le_refl _) ⟨by unfold rpC; rw [if_pos c_4, if_pos c_48, if_pos c_73], rfl⟩
      · refine v_iload C dX6_placeOf_77 rfl ?_
        refine v_if_eq (tgt := 86) C dX6_placeOf_79 (by decide) (fun c_79 => absurd c_79 (by decide)) (fun _ => ?_)
        refine v_ldc2 C dX6_placeOf_82 g_kl_X6_25 ?_
        exact v_lret C hr hlk dX6_placeOf_85 (Nat.le_refl _) (Nat.le_refl _) ⟨by unfold rpC; rw [if_pos c_4, if_pos c_48, if_neg c_73], rfl⟩
    · refine v_lload_n C dX6_placeOf_52 rfl rfl ?_
      refine v_aload_n C dX6_placeOf_53 rfl rfl ?_
      refine v_get C dX6_placeOf_54 5 h0 rfl in_X6 (by decide) g_fl_X6_15 (fun _ h9 => h9) rfl ?_
      refine v_lc_ge (tgt := 65) C dX6_placeOf_57 dX6_placeOf_58 (by decide) (fun c_57 => ?_) (fun c_57 => ?_)
      · refine v_iconst (v := 0) C dX6_placeOf_65 (by decide) ?_
        refine v_istore C dX6_placeOf_66 (by decide) rfl ?_
        refine v_aload_n C dX6_placeOf_68 rfl rfl ?_
        refine v_get C dX6_placeOf_69 3 h0 rfl in_X6 (by decide) g_fl_X6_22 (fun x9 h9 => u_same (C.2.2.2.2.1 _ g_sf_X6_size) x9 h9) rfl ?_
        refine v_lconst (v := 0) C dX6_placeOf_72 (by decide) ?_
        refine v_lc_eq (tgt := 82) C dX6_placeOf_73 dX6_placeOf_74 (by decide) (fun c_73 => ?_) (fun c_73 => ?_)
        · refine v_ldc2 C dX6_placeOf_82 g_kl_X6_25 ?_
          exact v_lret C hr hlk dX6_placeOf_85 (Nat.le_refl _) (Nat.le_refl _) ⟨by unfold rpC; rw [if_pos c_4, if_neg c_48, if_pos c_57, if_pos c_73], rfl⟩
        · refine v_iload C dX6_placeOf_77 rfl ?_
          refine v_if_eq (tgt := 86) C dX6_placeOf_79 (by decide) (fun _ => ?_) (fun c_79 => absurd c_79 (by decide))
          refine v_iload_n C dX6_placeOf_86 rfl rfl ?_
          refine v_if_eq (tgt := 98) C dX6_placeOf_87 (by decide) (fun _ => ?_) (fun c_87 => absurd c_87 (by decide))
          refine v_aload_n C dX6_placeOf_98 rfl rfl ?_
          refine v_get C dX6_placeOf_99 6 h0 rfl in_X6 (by decide) g_fl_X6_18 (fun _ h9 => h9) rfl ?_
          refine v_ineg C dX6_placeOf_102 ?_
          refine v_i2l C dX6_placeOf_103 ?_
          refine v_lstore C dX6_placeOf_104 (by decide) rfl ?_
          refine v_iload_n C dX6_placeOf_106 rfl rfl ?_
          refine v_if_eq (tgt := 119) C dX6_placeOf_107 (by decide) (fun _ => ?_) (fun c_107 => absurd c_107 (by decide))
          refine v_aload_n C dX6_placeOf_119 rfl rfl ?_
          refine v_get C dX6_placeOf_120 4 h0 rfl in_X6 (by decide) g_fl_X6_9 (fun _ h9 => h9) rfl ?_
          refine v_lload_n C dX6_placeOf_123 rfl rfl ?_
          refine v_lsub C dX6_placeOf_124 ?_
          refine v_lstore C dX6_placeOf_125 (by decide) rfl ?_
          refine v_lload C dX6_placeOf_127 rfl ?_
          refine v_lload C dX6_placeOf_129 rfl ?_
          refine v_cl (r_SN (host := RX8) C (c_quotient l D B K _ _ _) dX6_placeOf_131 (by decide +kernel) g_st_yX8_quotient g_in_X8 g_cd_yX8_quotient (rn_le (by decide)) (by decide) rfl hdn_yX8_quotient (Nat.le_of_ble_eq_true rfl) ⟨Nat.le_of_ble_eq_true rfl, Nat.le_of_ble_eq_true rfl⟩) (fun r_131 f_131 hp_131 => ?_)
          obtain ⟨rfl, rfl⟩ := hp_131
          refine v_lstore C dX6_placeOf_134 (by decide) rfl ?_
          refine v_lload C dX6_placeOf_136 rfl ?_
          refine v_lload C dX6_placeOf_138 rfl ?_
          refine v_lmul C dX6_placeOf_140 ?_
          refine v_lload C dX6_placeOf_141 rfl ?_
          refine v_lc_eq (tgt := 151) C dX6_placeOf_143 dX6_placeOf_144 (by decide) (fun c_143 => ?_) (fun c_143 => ?_)
          · refine v_lload C dX6_placeOf_151 rfl ?_
            refine v_lconst (v := 0) C dX6_placeOf_153 (by decide) ?_
            refine v_lc_ge (tgt := 164) C dX6_placeOf_154 dX6_placeOf_155 (by decide) (fun c_154 => ?_) (fun c_154 => ?_)
            · refine v_lload C dX6_placeOf_164 rfl ?_
              exact v_lret C hr hlk dX6_placeOf_166 (Nat.le_refl _) (Nat.le_refl _) ⟨by unfold rpC; rw [if_pos c_4, if_neg c_48, if_pos c_57, if_neg c_73, if_pos c_143, if_pos c_154], rfl⟩
            · refine v_ldc2 C dX6_placeOf_158 g_kl_X6_31 ?_
              refine v_goto (tgt := 166) C dX6_placeOf_161 (by decide) ?_
              exact v_lret C hr hlk dX6_placeOf_166 (Nat.le_refl _) (Nat.le_refl _) ⟨by unfold rpC; rw [if_pos c_4, if_neg c_48, if_pos c_57, if_neg c_73, if_pos c_143, if_neg c_154], rfl⟩
          · refine v_ldc2 C dX6_placeOf_147 g_kl_X6_25 ?_
            exact v_lret C hr hlk dX6_placeOf_150 (Nat.le_refl _) (Nat.le_refl _) ⟨by unfold rpC; rw [if_pos c_4, if_neg c_48, if_pos c_57, if_neg c_73, if_neg c_143], rfl⟩
      · refine v_iconst (v := 1) C dX6_placeOf_61 (by decide) ?_
        refine v_goto (tgt := 66) C dX6_placeOf_62 (by decide) ?_
        refine v_istore C dX6_placeOf_66 (by decide) rfl ?_
        refine v_aload_n C dX6_placeOf_68 rfl rfl ?_
        refine v_get C dX6_placeOf_69 3 h0 rfl in_X6 (by decide) g_fl_X6_22 (fun x9 h9 => u_same (C.2.2.2.2.1 _ g_sf_X6_size) x9 h9) rfl ?_
        refine v_lconst (v := 0) C dX6_placeOf_72 (by decide) ?_
        refine v_lc_eq (tgt := 82) C dX6_placeOf_73 dX6_placeOf_74 (by decide) (fun c_73 => ?_) (fun c_73 => ?_)
        · refine v_ldc2 C dX6_placeOf_82 g_kl_X6_25 ?_
          exact v_lret C hr hlk dX6_placeOf_85 (Nat.le_refl _) (Nat.le_refl _) ⟨by unfold rpC; rw [if_pos c_4, if_neg c_48, if_neg c_57, if_pos c_73], rfl⟩
        · refine v_iload C dX6_placeOf_77 rfl ?_
          refine v_if_eq (tgt := 86) C dX6_placeOf_79 (by decide) (fun c_79 => absurd c_79 (by decide)) (fun _ => ?_)
          refine v_ldc2 C dX6_placeOf_82 g_kl_X6_25 ?_
          exact v_lret C hr hlk dX6_placeOf_85 (Nat.le_refl _) (Nat.le_refl _) ⟨by unfold rpC; rw [if_pos c_4, if_neg c_48, if_neg c_57, if_neg c_73], rfl⟩
  · refine v_iconst (v := 1) C dX6_placeOf_7 (by decide) ?_
    refine v_goto (tgt := 12) C dX6_placeOf_8 (by decide) ?_
    refine v_istore_n C dX6_placeOf_12 rfl (by decide) rfl ?_
    refine v_iload_n C dX6_placeOf_13 rfl rfl ?_
    refine v_if_eq (tgt := 43) C dX6_placeOf_14 (by decide) (fun c_14 => absurd c_14 (by decide)) (fun _ => ?_)
    refine v_lload_n C dX6_placeOf_17 rfl rfl ?_
    refine v_aload_n C dX6_placeOf_18 rfl rfl ?_
    refine v_get C dX6_placeOf_19 4 h0 rfl in_X6 (by decide) g_fl_X6_9 (fun _ h9 => h9) rfl ?_
    refine v_lc_lt (tgt := 35) C dX6_placeOf_22 dX6_placeOf_23 (by decide) (fun c_22 => ?_) (fun c_22 => ?_)
    · refine v_iconst (v := 1) C dX6_placeOf_35 (by decide) ?_
      refine v_goto (tgt := 66) C dX6_placeOf_36 (by decide) ?_
      refine v_istore C dX6_placeOf_66 (by decide) rfl ?_
      refine v_aload_n C dX6_placeOf_68 rfl rfl ?_
      refine v_get C dX6_placeOf_69 3 h0 rfl in_X6 (by decide) g_fl_X6_22 (fun x9 h9 => u_same (C.2.2.2.2.1 _ g_sf_X6_size) x9 h9) rfl ?_
      refine v_lconst (v := 0) C dX6_placeOf_72 (by decide) ?_
      refine v_lc_eq (tgt := 82) C dX6_placeOf_73 dX6_placeOf_74 (by decide) (fun c_73 => ?_) (fun c_73 => ?_)
      · refine v_ldc2 C dX6_placeOf_82 g_kl_X6_25 ?_
        exact v_lret C hr hlk dX6_placeOf_85 (Nat.le_refl _) (Nat.le_refl _) ⟨by unfold rpC; rw [if_neg c_4, if_pos c_22, if_pos c_73], rfl⟩
      · refine v_iload C dX6_placeOf_77 rfl ?_
        refine v_if_eq (tgt := 86) C dX6_placeOf_79 (by decide) (fun c_79 => absurd c_79 (by decide)) (fun _ => ?_)
        refine v_ldc2 C dX6_placeOf_82 g_kl_X6_25 ?_
        exact v_lret C hr hlk dX6_placeOf_85 (Nat.le_refl _) (Nat.le_refl _) ⟨by unfold rpC; rw [if_neg c_4, if_pos c_22, if_neg c_73], rfl⟩
    · refine v_lload_n C dX6_placeOf_26 rfl rfl ?_
      refine v_aload_n C dX6_placeOf_27 rfl rfl ?_
      refine v_get C dX6_placeOf_28 5 h0 rfl in_X6 (by decide) g_fl_X6_15 (fun _ h9 => h9) rfl ?_
      refine v_lc_le (tgt := 39) C dX6_placeOf_31 dX6_placeOf_32 (by decide) (fun c_31 => ?_) (fun c_31 => ?_)
      · refine v_iconst (v := 0) C dX6_placeOf_39 (by decide) ?_
        refine v_goto (tgt := 66) C dX6_placeOf_40 (by decide) ?_
        refine v_istore C dX6_placeOf_66 (by decide) rfl ?_
        refine v_aload_n C dX6_placeOf_68 rfl rfl ?_
        refine v_get C dX6_placeOf_69 3 h0 rfl in_X6 (by decide) g_fl_X6_22 (fun x9 h9 => u_same (C.2.2.2.2.1 _ g_sf_X6_size) x9 h9) rfl ?_
        refine v_lconst (v := 0) C dX6_placeOf_72 (by decide) ?_
        refine v_lc_eq (tgt := 82) C dX6_placeOf_73 dX6_placeOf_74 (by decide) (fun c_73 => ?_) (fun c_73 => ?_)
        · refine v_ldc2 C dX6_placeOf_82 g_kl_X6_25 ?_
          exact v_lret C hr hlk dX6_placeOf_85 (Nat.le_refl _) (Nat.le_refl _) ⟨by unfold rpC; rw [if_neg c_4, if_neg c_22, if_pos c_31, if_pos c_73], rfl⟩
        · refine v_iload C dX6_placeOf_77 rfl ?_
          refine v_if_eq (tgt := 86) C dX6_placeOf_79 (by decide) (fun _ => ?_) (fun c_79 => absurd c_79 (by decide))
          refine v_iload_n C dX6_placeOf_86 rfl rfl ?_
          refine v_if_eq (tgt := 98) C dX6_placeOf_87 (by decide) (fun c_87 => absurd c_87 (by decide)) (fun _ => ?_)
          refine v_aload_n C dX6_placeOf_90 rfl rfl ?_
          refine v_get C dX6_placeOf_91 6 h0 rfl in_X6 (by decide) g_fl_X6_18 (fun _ h9 => h9) rfl ?_
          refine v_i2l C dX6_placeOf_94 ?_
          refine v_goto (tgt := 104) C dX6_placeOf_95 (by decide) ?_
          refine v_lstore C dX6_placeOf_104 (by decide) rfl ?_
          refine v_iload_n C dX6_placeOf_106 rfl rfl ?_
          refine v_if_eq (tgt := 119) C dX6_placeOf_107 (by decide) (fun c_107 => absurd c_107 (by decide)) (fun _ => ?_)
          refine v_lload_n C dX6_placeOf_110 rfl rfl ?_
          refine v_aload_n C dX6_placeOf_111 rfl rfl ?_
          refine v_get C dX6_placeOf_112 4 h0 rfl in_X6 (by decide) g_fl_X6_9 (fun _ h9 => h9) rfl ?_
          refine v_lsub C dX6_placeOf_115 ?_
          refine v_goto (tgt := 125) C dX6_placeOf_116 (by decide) ?_
          refine v_lstore C dX6_placeOf_125 (by decide) rfl ?_
          refine v_lload C dX6_placeOf_127 rfl ?_
          refine v_lload C dX6_placeOf_129 rfl ?_
          refine v_cl (r_SN (host := RX8) C (c_quotient l D B K _ _ _) dX6_placeOf_131 (by decide +kernel) g_st_yX8_quotient g_in_X8 g_cd_yX8_quotient (rn_le (by decide)) (by decide) rfl hdn_yX8_quotient (Nat.le_of_ble_eq_true rfl) ⟨Nat.le_of_ble_eq_true rfl, Nat.le_of_ble_eq_true rfl⟩) (fun r_131 f_131 hp_131 => ?_)
          obtain ⟨rfl, rfl⟩ := hp_131
          refine v_lstore C dX6_placeOf_134 (by decide) rfl ?_
          refine v_lload C dX6_placeOf_136 rfl ?_
          refine v_lload C dX6_placeOf_138 rfl ?_
          refine v_lmul C dX6_placeOf_140 ?_
          refine v_lload C dX6_placeOf_141 rfl ?_
          refine v_lc_eq (tgt := 151) C dX6_placeOf_143 dX6_placeOf_144 (by decide) (fun c_143 => ?_) (fun c_143 => ?_)
          · refine v_lload C dX6_placeOf_151 rfl ?_
            refine v_lconst (v := 0) C dX6_placeOf_153 (by decide) ?_
            refine v_lc_ge (tgt := 164) C dX6_placeOf_154 dX6_placeOf_155 (by decide) (fun c_154 => ?_) (fun c_154 => ?_)
            · refine v_lload C dX6_placeOf_164 rfl ?_
              exact v_lret C hr hlk dX6_placeOf_166 (Nat.le_refl _) (Nat.le_refl _) ⟨by unfold rpC; rw [if_neg c_4, if_neg c_22, if_pos c_31, if_neg c_73, if_pos c_143, if_pos c_154], rfl⟩
            · refine v_ldc2 C dX6_placeOf_158 g_kl_X6_31 ?_
              refine v_goto (tgt := 166) C dX6_placeOf_161 (by decide) ?_
              exact v_lret C hr hlk dX6_placeOf_166 (Nat.le_refl _) (Nat.le_refl _) ⟨by unfold rpC; rw [if_neg c_4, if_neg c_22, if_pos c_31, if_neg c_73, if_pos c_143, if_neg c_154], rfl⟩
          · refine v_ldc2 C dX6_placeOf_147 g_kl_X6_25 ?_
            exact v_lret C hr hlk dX6_placeOf_150 (Nat.le_refl _) (Nat.le_refl _) ⟨by unfold rpC; rw [if_neg c_4, if_neg c_22, if_pos c_31, if_neg c_73, if_neg c_143], rfl⟩
      · refine v_iconst (v := 1) C dX6_placeOf_35 (by decide) ?_
        refine v_goto (tgt := 66) C dX6_placeOf_36 (by decide) ?_
        refine v_istore C dX6_placeOf_66 (by decide) rfl ?_
        refine v_aload_n C dX6_placeOf_68 rfl rfl ?_
        refine v_get C dX6_placeOf_69 3 h0 rfl in_X6 (by decide) g_fl_X6_22 (fun x9 h9 => u_same (C.2.2.2.2.1 _ g_sf_X6_size) x9 h9) rfl ?_
        refine v_lconst (v := 0) C dX6_placeOf_72 (by decide) ?_
        refine v_lc_eq (tgt := 82) C dX6_placeOf_73 dX6_placeOf_74 (by decide) (fun c_73 => ?_) (fun c_73 => ?_)
        · refine v_ldc2 C dX6_placeOf_82 g_kl_X6_25 ?_
          exact v_lret C hr hlk dX6_placeOf_85 (Nat.le_refl _) (Nat.le_refl _) ⟨by unfold rpC; rw [if_neg c_4, if_neg c_22, if_neg c_31, if_pos c_73], rfl⟩
        · refine v_iload C dX6_placeOf_77 rfl ?_
          refine v_if_eq (tgt := 86) C dX6_placeOf_79 (by decide) (fun c_79 => absurd c_79 (by decide)) (fun _ => ?_)
          refine v_ldc2 C dX6_placeOf_82 g_kl_X6_25 ?_
          exact v_lret C hr hlk dX6_placeOf_85 (Nat.le_refl _) (Nat.le_refl _) ⟨by unfold rpC; rw [if_neg c_4, if_neg c_22, if_neg c_31, if_neg c_73], rfl⟩

def rvC (sz : Int64) (fi : Int64) (la : Int64) (sp : Int32) (k : Int64) : Int64 := (fi + (k * sp.toInt64))
set_option maxHeartbeats 4000000 in
set_option maxRecDepth 100000 in
theorem c_Row_valueAt (l : Launch) (D : va_G) (B : Nat) (K : Nat → ClassId) (f : St) (a0 : Nat) (sz : Int64) (fi : Int64) (la : Int64) (sp : Int32) (k : Int64) (num kd : Int32) (h0 : f a0 = some (.inr (5, [.int num, .int kd, .int 1, .long sz, .long fi, .long la, .int sp]))) : Kc l D B K yX6_valueAt cX6_valueAt 3 (some .long) 0 0 0 [.ref a0, .long k] f (Ql_ D B (fun r f9 => r = rvC sz fi la sp k ∧ f9 = f)) := by
  refine v_met [(0, .ref a0), (1, .long k)] (by decide) (Nat.le_of_ble_eq_true rfl) rfl ?_
  intro p e s m args below meth c C hr hlk hin
  refine v_aload_n C dX6_valueAt_0 rfl rfl ?_
  refine v_get C dX6_valueAt_1 4 h0 rfl in_X6 (by decide) g_fl_X6_9 (fun _ h9 => h9) rfl ?_
  refine v_lload_n C dX6_valueAt_4 rfl rfl ?_
  refine v_aload_n C dX6_valueAt_5 rfl rfl ?_
  refine v_get C dX6_valueAt_6 6 h0 rfl in_X6 (by decide) g_fl_X6_18 (fun _ h9 => h9) rfl ?_
  refine v_i2l C dX6_valueAt_9 ?_
  refine v_lmul C dX6_valueAt_10 ?_
  refine v_ladd C dX6_valueAt_11 ?_
  exact v_lret C hr hlk dX6_valueAt_12 (Nat.le_refl _) (Nat.le_refl _) ⟨by unfold rvC; rfl, rfl⟩
end
section
/-! arrays: new ones, stores of references -/
theorem va_up_id {f : St} {a : Nat} {x : va_E} (h : f a = some x) : va_up f a (some x) = f := by
  funext b
  by_cases hb : b = a
  · subst hb; rw [va_up_self, h]
  · rw [va_up_ne _ _ hb]
theorem va_RA_inj {s : State} {cA cB : ClassId} {ty : FieldType} (h1 : va_RA s cA ty) (h2 : va_RA s cB ty) : cA = cB := by
  cases ty with
  | object C =>
    obtain ⟨_, _, _, _, _, e1⟩ := h1
    obtain ⟨_, _, _, _, _, e2⟩ := h2
    exact Option.some.inj (e1.symm.trans e2)
  | _ => exact Option.some.inj (h1.symm.trans h2)
theorem g_obj1 : Cond.instanceMethod objectInit ∈ GT := g_im_java_lang_Object__init__47f5
theorem g_obj2 : Cond.code objectInit ⟨#[0xb1]⟩ 1 none ∈ GT := g_cd_java_lang_Object__init__47f5
section VA
variable {p : Program} {l : Launch} {e : Env} {R : Room} {s : State} {m : MethodId} {args : Array Value} {below : List Frame} {meth : Method} {c : Code} {D : va_G} {B nL : Nat} {Q : State → Prop} {ce sl : Nat} {f : St} {lv : Lv} {pc : Nat} {st : List Value} {cc : ByteArray} {own : String} {K : Nat → ClassId}
theorem v_newa (C : Cx p s m args c cc nL own D B K) {atype : ArrayType} {ty : FieldType} {n : Int32} {N : Nat} {a0 : vp_A} (hd : decode cc pc = .ok (.newarray atype, 2)) (t0 : Nat) (hty : newarray.typeOf atype = ty) (ht : (tyL K)[t0]? = some (K t0, ty)) (g1 : Cond.arrayClass ty ∈ GT) (ha : ∀ cA : ClassId, vp_cell cA a0 = arrV cA N (fun _ => defaultValue ty)) (hn : ¬ n < 0) (hN : n.toNatClampNeg = N) (hby : N * componentBytes ty ≤ 536870912) (hce : ce + 1 ≤ R.cells) (hsl : sl + N ≤ R.slots) (k : ∀ q, f q = none → V p l e R s m args below meth c D B nL Q (ce + 1) (sl + N) (va_up f q (some (.inl (K t0, a0)))) lv (pc + 2) (.ref q :: st)) : V p l e R s m args below meth c D B nL Q ce sl f lv pc (.int n :: st) := fun H locs ls h hS hl => by
  obtain ⟨ws, hP, hD, hpu⟩ := h.push
  refine va_newa C.1 C.2.1 (by rw [hty]; exact C.2.2.2.2.1 _ g1) hty C.2.2.2.2.2.1 hP hD hS (fun q hq => Nat.le_trans C.2.2.2.2.2.2.1 hq) ha hn hN hby hce hsl hd (fun q cA H1 hK1 hP1 hD1 hS1 => ?_)
  have e9 : cA = K t0 := va_RA_inj (hK1.2 5 (cA, ty) rfl).2 (C.2.2.2.2.2.1.2 t0 _ ht).2
  subst e9
  obtain ⟨h1, h2⟩ := hpu q _ H1 hP1 hD1
  exact k q h1 H1 locs ls h2 hS1 hl
theorem v_newq (C : Cx p s m args c cc nL own D B K) {index : Nat} {n : Int32} {N : Nat} (hd : decode cc pc = .ok (.anewarray index, 3)) (g1 : Cond.classLink own index RX5 ∈ GT) (hn : ¬ n < 0) (hN : n.toNatClampNeg = N) (hby : N * 4 ≤ 536870912) (hce : ce + 1 ≤ R.cells) (hsl : sl + N ≤ R.slots) (k : ∀ q, f q = none → V p l e R s m args below meth c D B nL Q (ce + 1) (sl + N) (va_up f q (some (.inl (K 3, N, .inr (.inr (.inr (.inr (fun _ => none)))))))) lv (pc + 3) (.ref q :: st)) : V p l e R s m args below meth c D B nL Q ce sl f lv pc (.int n :: st) := fun H locs ls h hS hl => by
  obtain ⟨ws, hP, hD, hpu⟩ := h.push
  refine va_newq C.1 C.2.1 C.2.2.2.1 (C.2.2.2.2.1 _ g1) C.2.2.2.2.2.2.2.2.2 C.2.2.2.2.2.1 hP hD hS (fun q hq => Nat.le_trans C.2.2.2.2.2.2.1 hq) hn hN hby hce hsl hd (fun q cA H1 hK1 hP1 hD1 hS1 => ?_)
  have e9 : cA = K 3 := va_RA_inj (hK1.2 5 (cA, .object RX5) rfl).2 (C.2.2.2.2.2.1.2 3 _ rfl).2
  subst e9
  obtain ⟨h1, h2⟩ := hpu q _ H1 hP1 hD1
  exact k q h1 H1 locs ls h2 hS1 hl
theorem v_ast (C : Cx p s m args c cc nL own D B K) {a n v ci N9 : Nat} {g : Nat → Option Nat} {i : Int32} {fs : List Value} {T9 : u_T} {C9 : String} (hd : decode cc pc = .ok (.aastore, 1)) (he : f a = some (.inl (K 3, n, .inr (.inr (.inr (.inr g)))))) (hv : f v = some (.inr (ci, fs))) (hc : classes[ci]? = some (C9, T9, N9)) (gc : Cond.castable C9 RX5 ∈ nbL) (hi : vp_in i n) (k : V p l e R s m args below meth c D B nL Q ce sl (va_up f a (some (.inl (K 3, n, .inr (.inr (.inr (.inr (va_up g i.toNatClampNeg (some v))))))))) lv (pc + 1) st) : V p l e R s m args below meth c D B nL Q ce sl f lv pc (.ref v :: .int i :: .ref a :: st) := fun H locs ls h hS hl => by
  obtain ⟨ws, q0, hP, hD, hq, hset⟩ := h.place he
  refine va_astqM (E := RX5) C.1 C.2.1 C.2.2.2.2.2.1 hP hD hS q0 3 hq rfl (va_rAny C.2.2.2.2.2.1 (h.one hv) (q0 := 0) rfl hc (fun comp c0 e1 e2 => ?_)) hi hd (fun H1 locs1 hP1 hD1 hS1 => k H1 locs1 ls (hset _ H1 hP1 hD1) hS1 hl)
  obtain ⟨c3, c4, h3, h4, h5⟩ := Cond.castable_spec (C.2.2.2.2.2.2.2.1 _ gc)
  cases Option.some.inj (h3.symm.trans e2)
  cases Option.some.inj (h4.symm.trans e1)
  exact h5
end VA
end
section
/-! writes of small objects, constructors -/
set_option maxHeartbeats 4000000 in
set_option maxRecDepth 100000 in
theorem c_take (l : Launch) (D : va_G) (B : Nat) (K : Nat → ClassId) (f : St) (a0 ha : Nat) (g : Nat → Int64) (k : Int32) (v : Int64) (h0 : f a0 = some (.inr (2, [.ref ha]))) (h1 : f ha = some (.inl (K 1, 8, .inr (.inl g)))) : Kc l D B K yX2_take cX2_take 4 none 0 0 0 [.ref a0, .int k, .long v] f (Qv_ D B (fun f9 => f9 = if k < 0 then f else if 8 ≤ k then f else va_up f ha (some (.inl (K 1, 8, .inr (.inl (vp_updL g k.toNatClampNeg v))))))) := by
  refine v_met [(0, .ref a0), (1, .int k), (2, .long v)] (by decide) (Nat.le_of_ble_eq_true rfl) rfl ?_
  intro p e s m args below meth c C hr hlk hin
  refine v_iload_n C dX2_take_0 rfl rfl ?_
  refine v_if_lt (tgt := 17) C dX2_take_1 (by decide) (fun c_1 => ?_) (fun c_1 => ?_)
  · exact v_vret C hr hlk dX2_take_17 (Nat.le_refl _) (Nat.le_refl _) (by rw [if_pos c_1])
  · refine v_iload_n C dX2_take_4 rfl rfl ?_
    refine v_bipush (v := 8) C dX2_take_5 (by decide) ?_
    refine v_icmp_ge (tgt := 17) C dX2_take_7 (by decide) (fun c_7 => ?_) (fun c_7 => ?_)
    · exact v_vret C hr hlk dX2_take_17 (Nat.le_refl _) (Nat.le_refl _) (by rw [if_neg c_1, if_pos c_7])
    · refine v_aload_n C dX2_take_10 rfl rfl ?_
      refine v_get C dX2_take_11 0 h0 rfl in_X2 (by decide) g_fl_X2_9 (fun _ h9 => h9) rfl ?_
      refine v_iload_n C dX2_take_14 rfl rfl ?_
      refine v_lload_n C dX2_take_15 rfl rfl ?_
      refine v_last C dX2_take_16 h1 (vp_in_c rfl c_1 c_7) ?_
      exact v_vret C hr hlk dX2_take_17 (Nat.le_refl _) (Nat.le_refl _) (by rw [if_neg c_1, if_neg c_7])

set_option maxHeartbeats 4000000 in
set_option maxRecDepth 100000 in
theorem c_note (l : Launch) (D : va_G) (B : Nat) (K : Nat → ClassId) (f : St) (a0 : Nat) (t x y z a b c9 : Int32) (h0 : f a0 = some (.inr (3, [.int t, .int x, .int y, .int z]))) : Kc l D B K yX3_note cX3_note 4 none 0 0 0 [.ref a0, .int a, .int b, .int c9] f (Qv_ D B (fun f9 => f9 = va_up f a0 (some (.inr (3, [.int (t + 1), .int a, .int b, .int c9]))))) := by
  refine v_met [(0, .ref a0), (1, .int a), (2, .int b), (3, .int c9)] (by decide) (Nat.le_of_ble_eq_true rfl) rfl ?_
  intro p e s m args below meth c C hr hlk hin
  refine v_aload_n C dX3_note_0 rfl rfl ?_
  refine v_dup C dX3_note_1 rfl ?_
  refine v_get C dX3_note_2 0 h0 rfl in_X3 (by decide) g_fl_X3_7 (fun _ h9 => h9) rfl ?_
  refine v_iconst (v := 1) C dX3_note_5 (by decide) ?_
  refine v_iadd C dX3_note_6 ?_
  refine v_put C dX3_note_7 0 h0 rfl in_X3 tyX3 tyX3_ok nmX3 (by decide) g_fl_X3_7 (fun _ h9 => h9) rfl (tyX_at tyX3_ok (by decide)) rfl rfl (Nat.le_of_ble_eq_true rfl) ?_
  refine v_aload_n C dX3_note_10 rfl rfl ?_
  refine v_iload_n C dX3_note_11 rfl rfl ?_
  refine v_put C dX3_note_12 1 (va_up_self _ _ _) rfl in_X3 tyX3 tyX3_ok nmX3 (by decide) g_fl_X3_13 (fun _ h9 => h9) rfl (tyX_at tyX3_ok (by decide)) rfl rfl (Nat.le_of_ble_eq_true rfl) ?_
  refine v_aload_n C dX3_note_15 rfl rfl ?_
  refine v_iload_n C dX3_note_16 rfl rfl ?_
  refine v_put C dX3_note_17 2 (va_up_self _ _ _) rfl in_X3 tyX3 tyX3_ok nmX3 (by decide) g_fl_X3_16 (fun _ h9 => h9) rfl (tyX_at tyX3_ok (by decide)) rfl rfl (Nat.le_of_ble_eq_true rfl) ?_
  refine v_aload_n C dX3_note_20 rfl rfl ?_
  refine v_iload_n C dX3_note_21 rfl rfl ?_
  refine v_put C dX3_note_22 3 (va_up_self _ _ _) rfl in_X3 tyX3 tyX3_ok nmX3 (by decide) g_fl_X3_19 (fun _ h9 => h9) rfl (tyX_at tyX3_ok (by decide)) rfl rfl (Nat.le_of_ble_eq_true rfl) ?_
  exact v_vret C hr hlk dX3_note_25 (Nat.le_refl _) (Nat.le_refl _) (by rw [bx_uu, bx_uu, bx_uu]; rfl)

set_option maxHeartbeats 4000000 in
set_option maxRecDepth 100000 in
theorem c_forget (l : Launch) (D : va_G) (B : Nat) (K : Nat → ClassId) (f : St) (a0 : Nat) (t x y z : Int32) (h0 : f a0 = some (.inr (3, [.int t, .int x, .int y, .int z]))) : Kc l D B K yX3_forget cX3_forget 1 none 0 0 0 [.ref a0] f (Qv_ D B (fun f9 => f9 = va_up f a0 (some (.inr (3, [.int 0, .int x, .int y, .int z]))))) := by
  refine v_met [(0, .ref a0)] (by decide) (Nat.le_of_ble_eq_true rfl) rfl ?_
  intro p e s m args below meth c C hr hlk hin
  refine v_aload_n C dX3_forget_0 rfl rfl ?_
  refine v_iconst (v := 0) C dX3_forget_1 (by decide) ?_
  refine v_put C dX3_forget_2 0 h0 rfl in_X3 tyX3 tyX3_ok nmX3 (by decide) g_fl_X3_7 (fun _ h9 => h9) rfl (tyX_at tyX3_ok (by decide)) rfl rfl (Nat.le_of_ble_eq_true rfl) ?_
  exact v_vret C hr hlk dX3_forget_5 (Nat.le_refl _) (Nat.le_refl _) rfl

set_option maxHeartbeats 4000000 in
set_option maxRecDepth 100000 in
theorem c_Miss_init (l : Launch) (D : va_G) (B : Nat) (K : Nat → ClassId) (f : St) (a0 : Nat) : Kc l D B K yX3_init cX3_init 1 none 1 0 0 [.ref a0] f (Qv_ D B (fun f9 => f9 = f)) := by
  refine v_met [(0, .ref a0)] (by decide) (Nat.le_of_ble_eq_true rfl) rfl ?_
  intro p e s m args below meth c C hr hlk hin
  refine v_aload_n C dX3_init_0 rfl rfl ?_
  refine v_obj C dX3_init_1 g_ml_X3_1 g_obj1 g_obj2 (rn_le (by decide)) (Nat.le_of_ble_eq_true rfl) ?_
  exact v_vret C hr hlk dX3_init_4 (Nat.le_refl _) (Nat.le_refl _) rfl

set_option maxHeartbeats 4000000 in
set_option maxRecDepth 100000 in
theorem c_Range_init_X0 (l : Launch) (D : va_G) (B : Nat) (K : Nat → ClassId) (f : St) (a0 : Nat) (num kd w : Int32) (sz : Int64) (x0 x1 x2 x3 x4 : Value) (h0 : f a0 = some (.inr (0, [x0, x1, x2, x3, x4]))) : Kc l D B K yX5_init cX5_init 6 none 1 0 0 [.ref a0, .int num, .int kd, .int w, .long sz] f (Qv_ D B (fun f9 => f9 = va_up f a0 (some (.inr (0, [.int num, .int kd, .int w, .long sz, x4]))))) := by
  refine v_met [(0, .ref a0), (1, .int num), (2, .int kd), (3, .int w), (4, .long sz)] (by decide) (Nat.le_of_ble_eq_true rfl) rfl ?_
  intro p e s m args below meth c C hr hlk hin
  refine v_aload_n C dX5_init_0 rfl rfl ?_
  refine v_obj C dX5_init_1 g_ml_X5_3 g_obj1 g_obj2 (rn_le (by decide)) (Nat.le_of_ble_eq_true rfl) ?_
  refine v_aload_n C dX5_init_4 rfl rfl ?_
  refine v_iload_n C dX5_init_5 rfl rfl ?_
  refine v_putF C dX5_init_6 0 h0 rfl in_X0 tyX0 tyX0_ok nmX0 (by decide) g_fl_X5_9 (fun _ h9 => h9) rfl hin rfl (tyX_at tyX0_ok (by decide)) rfl rfl (Nat.le_of_ble_eq_true rfl) ?_
  refine v_aload_n C dX5_init_9 rfl rfl ?_
  refine v_iload_n C dX5_init_10 rfl rfl ?_
  refine v_putF C dX5_init_11 1 (va_up_self _ _ _) rfl in_X0 tyX0 tyX0_ok nmX0 (by decide) g_fl_X5_15 (fun _ h9 => h9) rfl hin rfl (tyX_at tyX0_ok (by decide)) rfl rfl (Nat.le_of_ble_eq_true rfl) ?_
  refine v_aload_n C dX5_init_14 rfl rfl ?_
  refine v_iload_n C dX5_init_15 rfl rfl ?_
  refine v_putF C dX5_init_16 2 (va_up_self _ _ _) rfl in_X0 tyX0 tyX0_ok nmX0 (by decide) g_fl_X5_18 (fun _ h9 => h9) rfl hin rfl (tyX_at tyX0_ok (by decide)) rfl rfl (Nat.le_of_ble_eq_true rfl) ?_
  refine v_aload_n C dX5_init_19 rfl rfl ?_
  refine v_lload C dX5_init_20 rfl ?_
  refine v_putF C dX5_init_22 3 (va_up_self _ _ _) rfl in_X0 tyX0 tyX0_ok nmX0 (by decide) g_fl_X5_21 (fun _ h9 => h9) rfl hin rfl (tyX_at tyX0_ok (by decide)) rfl rfl (Nat.le_of_ble_eq_true rfl) ?_
  exact v_vret C hr hlk dX5_init_25 (Nat.le_refl _) (Nat.le_refl _) (by rw [bx_uu, bx_uu, bx_uu]; rfl)

set_option maxHeartbeats 4000000 in
set_option maxRecDepth 100000 in
theorem c_Range_init_X1 (l : Launch) (D : va_G) (B : Nat) (K : Nat → ClassId) (f : St) (a0 : Nat) (num kd w : Int32) (sz : Int64) (x0 x1 x2 x3 x4 : Value) (h0 : f a0 = some (.inr (1, [x0, x1, x2, x3, x4]))) : Kc l D B K yX5_init cX5_init 6 none 1 0 0 [.ref a0, .int num, .int kd, .int w, .long sz] f (Qv_ D B (fun f9 => f9 = va_up f a0 (some (.inr (1, [.int num, .int kd, .int w, .long sz, x4]))))) := by
  refine v_met [(0, .ref a0), (1, .int num), (2, .int kd), (3, .int w), (4, .long sz)] (by decide) (Nat.le_of_ble_eq_true rfl) rfl ?_
  intro p e s m args below meth c C hr hlk hin
  refine v_aload_n C dX5_init_0 rfl rfl ?_
  refine v_obj C dX5_init_1 g_ml_X5_3 g_obj1 g_obj2 (rn_le (by decide)) (Nat.le_of_ble_eq_true rfl) ?_
  refine v_aload_n C dX5_init_4 rfl rfl ?_
  refine v_iload_n C dX5_init_5 rfl rfl ?_
  refine v_putF C dX5_init_6 0 h0 rfl in_X1 tyX1 tyX1_ok nmX1 (by decide) g_fl_X5_9 (fun _ h9 => h9) rfl hin rfl (tyX_at tyX1_ok (by decide)) rfl rfl (Nat.le_of_ble_eq_true rfl) ?_
  refine v_aload_n C dX5_init_9 rfl rfl ?_
  refine v_iload_n C dX5_init_10 rfl rfl ?_
  refine v_putF C dX5_init_11 1 (va_up_self _ _ _) rfl in_X1 tyX1 tyX1_ok nmX1 (by decide) g_fl_X5_15 (fun _ h9 => h9) rfl hin rfl (tyX_at tyX1_ok (by decide)) rfl rfl (Nat.le_of_ble_eq_true rfl) ?_
  refine v_aload_n C dX5_init_14 rfl rfl ?_
  refine v_iload_n C dX5_init_15 rfl rfl ?_
  refine v_putF C dX5_init_16 2 (va_up_self _ _ _) rfl in_X1 tyX1 tyX1_ok nmX1 (by decide) g_fl_X5_18 (fun _ h9 => h9) rfl hin rfl (tyX_at tyX1_ok (by decide)) rfl rfl (Nat.le_of_ble_eq_true rfl) ?_
  refine v_aload_n C dX5_init_19 rfl rfl ?_
  refine v_lload C dX5_init_20 rfl ?_
  refine v_putF C dX5_init_22 3 (va_up_self _ _ _) rfl in_X1 tyX1 tyX1_ok nmX1 (by decide) g_fl_X5_21 (fun _ h9 => h9) rfl hin rfl (tyX_at tyX1_ok (by decide)) rfl rfl (Nat.le_of_ble_eq_true rfl) ?_
  exact v_vret C hr hlk dX5_init_25 (Nat.le_refl _) (Nat.le_refl _) (by rw [bx_uu, bx_uu, bx_uu]; rfl)

set_option maxHeartbeats 4000000 in
set_option maxRecDepth 100000 in
theorem c_Range_init_X4 (l : Launch) (D : va_G) (B : Nat) (K : Nat → ClassId) (f : St) (a0 : Nat) (num kd w : Int32) (sz : Int64) (x0 x1 x2 x3 x4 x5 : Value) (h0 : f a0 = some (.inr (4, [x0, x1, x2, x3, x4, x5]))) : Kc l D B K yX5_init cX5_init 6 none 1 0 0 [.ref a0, .int num, .int kd, .int w, .long sz] f (Qv_ D B (fun f9 => f9 = va_up f a0 (some (.inr (4, [.int num, .int kd, .int w, .long sz, x4, x5]))))) := by
  refine v_met [(0, .ref a0), (1, .int num), (2, .int kd), (3, .int w), (4, .long sz)] (by decide) (Nat.le_of_ble_eq_true rfl) rfl ?_
  intro p e s m args below meth c C hr hlk hin
  refine v_aload_n C dX5_init_0 rfl rfl ?_
  refine v_obj C dX5_init_1 g_ml_X5_3 g_obj1 g_obj2 (rn_le (by decide)) (Nat.le_of_ble_eq_true rfl) ?_
  refine v_aload_n C dX5_init_4 rfl rfl ?_
  refine v_iload_n C dX5_init_5 rfl rfl ?_
  refine v_putF C dX5_init_6 0 h0 rfl in_X4 tyX4 tyX4_ok nmX4 (by decide) g_fl_X5_9 (fun _ h9 => h9) rfl hin rfl (tyX_at tyX4_ok (by decide)) rfl rfl (Nat.le_of_ble_eq_true rfl) ?_
  refine v_aload_n C dX5_init_9 rfl rfl ?_
  refine v_iload_n C dX5_init_10 rfl rfl ?_
  refine v_putF C dX5_init_11 1 (va_up_self _ _ _) rfl in_X4 tyX4 tyX4_ok nmX4 (by decide) g_fl_X5_15 (fun _ h9 => h9) rfl hin rfl (tyX_at tyX4_ok (by decide)) rfl rfl (Nat.le_of_ble_eq_true rfl) ?_
  refine v_aload_n C dX5_init_14 rfl rfl ?_
  refine v_iload_n C dX5_init_15 rfl rfl ?_
  refine v_putF C dX5_init_16 2 (va_up_self _ _ _) rfl in_X4 tyX4 tyX4_ok nmX4 (by decide) g_fl_X5_18 (fun _ h9 => h9) rfl hin rfl (tyX_at tyX4_ok (by decide)) rfl rfl (Nat.le_of_ble_eq_true rfl) ?_
  refine v_aload_n C dX5_init_19 rfl rfl ?_
  refine v_lload C dX5_init_20 rfl ?_
  refine v_putF C dX5_init_22 3 (va_up_self _ _ _) rfl in_X4 tyX4 tyX4_ok nmX4 (by decide) g_fl_X5_21 (fun _ h9 => h9) rfl hin rfl (tyX_at tyX4_ok (by decide)) rfl rfl (Nat.le_of_ble_eq_true rfl) ?_
  exact v_vret C hr hlk dX5_init_25 (Nat.le_refl _) (Nat.le_refl _) (by rw [bx_uu, bx_uu, bx_uu]; rfl)

set_option maxHeartbeats 4000000 in
set_option maxRecDepth 100000 in
theorem c_Range_init_X6 (l : Launch) (D : va_G) (B : Nat) (K : Nat → ClassId) (f : St) (a0 : Nat) (num kd w : Int32) (sz : Int64) (x0 x1 x2 x3 x4 x5 x6 : Value) (h0 : f a0 = some (.inr (5, [x0, x1, x2, x3, x4, x5, x6]))) : Kc l D B K yX5_init cX5_init 6 none 1 0 0 [.ref a0, .int num, .int kd, .int w, .long sz] f (Qv_ D B (fun f9 => f9 = va_up f a0 (some (.inr (5, [.int num, .int kd, .int w, .long sz, x4, x5, x6]))))) := by
  refine v_met [(0, .ref a0), (1, .int num), (2, .int kd), (3, .int w), (4, .long sz)] (by decide) (Nat.le_of_ble_eq_true rfl) rfl ?_
  intro p e s m args below meth c C hr hlk hin
  refine v_aload_n C dX5_init_0 rfl rfl ?_
  refine v_obj C dX5_init_1 g_ml_X5_3 g_obj1 g_obj2 (rn_le (by decide)) (Nat.le_of_ble_eq_true rfl) ?_
  refine v_aload_n C dX5_init_4 rfl rfl ?_
  refine v_iload_n C dX5_init_5 rfl rfl ?_
  refine v_putF C dX5_init_6 0 h0 rfl in_X6 tyX6 tyX6_ok nmX6 (by decide) g_fl_X5_9 (fun _ h9 => h9) rfl hin rfl (tyX_at tyX6_ok (by decide)) rfl rfl (Nat.le_of_ble_eq_true rfl) ?_
  refine v_aload_n C dX5_init_9 rfl rfl ?_
  refine v_iload_n C dX5_init_10 rfl rfl ?_
  refine v_putF C dX5_init_11 1 (va_up_self _ _ _) rfl in_X6 tyX6 tyX6_ok nmX6 (by decide) g_fl_X5_15 (fun _ h9 => h9) rfl hin rfl (tyX_at tyX6_ok (by decide)) rfl rfl (Nat.le_of_ble_eq_true rfl) ?_
  refine v_aload_n C dX5_init_14 rfl rfl ?_
  refine v_iload_n C dX5_init_15 rfl rfl ?_
  refine v_putF C dX5_init_16 2 (va_up_self _ _ _) rfl in_X6 tyX6 tyX6_ok nmX6 (by decide) g_fl_X5_18 (fun _ h9 => h9) rfl hin rfl (tyX_at tyX6_ok (by decide)) rfl rfl (Nat.le_of_ble_eq_true rfl) ?_
  refine v_aload_n C dX5_init_19 rfl rfl ?_
  refine v_lload C dX5_init_20 rfl ?_
  refine v_putF C dX5_init_22 3 (va_up_self _ _ _) rfl in_X6 tyX6 tyX6_ok nmX6 (by decide) g_fl_X5_21 (fun _ h9 => h9) rfl hin rfl (tyX_at tyX6_ok (by decide)) rfl rfl (Nat.le_of_ble_eq_true rfl) ?_
  exact v_vret C hr hlk dX5_init_25 (Nat.le_refl _) (Nat.le_refl _) (by rw [bx_uu, bx_uu, bx_uu]; rfl)

set_option maxHeartbeats 4000000 in
set_option maxRecDepth 100000 in
theorem c_Single_init_X4 (l : Launch) (D : va_G) (B : Nat) (K : Nat → ClassId) (f : St) (a0 : Nat) (num kd : Int32) (sz : Int64) (x0 x1 x2 x3 x4 x5 : Value) (h0 : f a0 = some (.inr (4, [x0, x1, x2, x3, x4, x5]))) : Kc l D B K yX7_init cX7_init 5 none 2 0 0 [.ref a0, .int num, .int kd, .long sz] f (Qv_ D B (fun f9 => f9 = va_up f a0 (some (.inr (4, [.int num, .int kd, .int 1, .long sz, x4, x5]))))) := by
  refine v_met [(0, .ref a0), (1, .int num), (2, .int kd), (3, .long sz)] (by decide) (Nat.le_of_ble_eq_true rfl) rfl ?_
  intro p e s m args below meth c C hr hlk hin
  refine v_aload_n C dX7_init_0 rfl rfl ?_
  refine v_iload_n C dX7_init_1 rfl rfl ?_
  refine v_iload_n C dX7_init_2 rfl rfl ?_
  refine v_iconst (v := 1) C dX7_init_3 (by decide) ?_
  refine v_lload_n C dX7_init_4 rfl rfl ?_
  refine v_cv (r_I C (c_Range_init_X4 l D B K _ a0 _ _ _ _ _ _ _ _ _ _ h0) dX7_init_5 g_ml_X7_3 g_im_yX5_init g_in_X5 g_cd_yX5_init rfl (rn_le (by decide)) (by decide) rfl hdn_yX5_init (Nat.le_of_ble_eq_true rfl) ⟨Nat.le_of_ble_eq_true rfl, Nat.le_of_ble_eq_true rfl⟩) (fun f_5 hp_5 => ?_)
  subst hp_5
  exact v_vret C hr hlk dX7_init_8 (Nat.le_refl _) (Nat.le_refl _) rfl

set_option maxHeartbeats 4000000 in
set_option maxRecDepth 100000 in
theorem c_Single_init_X6 (l : Launch) (D : va_G) (B : Nat) (K : Nat → ClassId) (f : St) (a0 : Nat) (num kd : Int32) (sz : Int64) (x0 x1 x2 x3 x4 x5 x6 : Value) (h0 : f a0 = some (.inr (5, [x0, x1, x2, x3, x4, x5, x6]))) : Kc l D B K yX7_init cX7_init 5 none 2 0 0 [.ref a0, .int num, .int kd, .long sz] f (Qv_ D B (fun f9 => f9 = va_up f a0 (some (.inr (5, [.int num, .int kd, .int 1, .long sz, x4, x5, x6]))))) := by
  refine v_met [(0, .ref a0), (1, .int num), (2, .int kd), (3, .long sz)] (by decide) (Nat.le_of_ble_eq_true rfl) rfl ?_
  intro p e s m args below meth c C hr hlk hin
  refine v_aload_n C dX7_init_0 rfl rfl ?_
  refine v_iload_n C dX7_init_1 rfl rfl ?_
  refine v_iload_n C dX7_init_2 rfl rfl ?_
  refine v_iconst (v := 1) C dX7_init_3 (by decide) ?_
  refine v_lload_n C dX7_init_4 rfl rfl ?_
  refine v_cv (r_I C (c_Range_init_X6 l D B K _ a0 _ _ _ _ _ _ _ _ _ _ _ h0) dX7_init_5 g_ml_X7_3 g_im_yX5_init g_in_X5 g_cd_yX5_init rfl (rn_le (by decide)) (by decide) rfl hdn_yX5_init (Nat.le_of_ble_eq_true rfl) ⟨Nat.le_of_ble_eq_true rfl, Nat.le_of_ble_eq_true rfl⟩) (fun f_5 hp_5 => ?_)
  subst hp_5
  exact v_vret C hr hlk dX7_init_8 (Nat.le_refl _) (Nat.le_refl _) rfl

set_option maxHeartbeats 4000000 in
set_option maxRecDepth 100000 in
theorem c_Row_init (l : Launch) (D : va_G) (B : Nat) (K : Nat → ClassId) (f : St) (a0 : Nat) (num kd : Int32) (fi la : Int64) (sp : Int32) (sz : Int64) (x0 x1 x2 x3 x4 x5 x6 : Value) (h0 : f a0 = some (.inr (5, [x0, x1, x2, x3, x4, x5, x6]))) : Kc l D B K yX6_init cX6_init 10 none 3 0 0 [.ref a0, .int num, .int kd, .long fi, .long la, .int sp, .long sz] f (Qv_ D B (fun f9 => f9 = va_up f a0 (some (.inr (5, [.int num, .int kd, .int 1, .long sz, .long fi, .long la, .int sp]))))) := by
  refine v_met [(0, .ref a0), (1, .int num), (2, .int kd), (3, .long fi), (5, .long la), (7, .int sp), (8, .long sz)] (by decide) (Nat.le_of_ble_eq_true rfl) rfl ?_
  intro p e s m args below meth c C hr hlk hin
  refine v_aload_n C dX6_init_0 rfl rfl ?_
  refine v_iload_n C dX6_init_1 rfl rfl ?_
  refine v_iload_n C dX6_init_2 rfl rfl ?_
  refine v_lload C dX6_init_3 rfl ?_
  refine v_cv (r_I C (c_Single_init_X6 l D B K _ a0 _ _ _ _ _ _ _ _ _ _ h0) dX6_init_5 g_ml_X6_3 g_im_yX7_init g_in_X7 g_cd_yX7_init rfl (rn_le (by decide)) (by decide) rfl hdn_yX7_init (Nat.le_of_ble_eq_true rfl) ⟨Nat.le_of_ble_eq_true rfl, Nat.le_of_ble_eq_true rfl⟩) (fun f_5 hp_5 => ?_)
  subst hp_5
  refine v_aload_n C dX6_init_8 rfl rfl ?_
  refine v_lload_n C dX6_init_9 rfl rfl ?_
  refine v_putF C dX6_init_10 4 (va_up_self _ _ _) rfl in_X6 tyX6 tyX6_ok nmX6 (by decide) g_fl_X6_9 (fun _ h9 => h9) rfl hin rfl (tyX_at tyX6_ok (by decide)) rfl rfl (Nat.le_of_ble_eq_true rfl) ?_
  refine v_aload_n C dX6_init_13 rfl rfl ?_
  refine v_lload C dX6_init_14 rfl ?_
  refine v_putF C dX6_init_16 5 (va_up_self _ _ _) rfl in_X6 tyX6 tyX6_ok nmX6 (by decide) g_fl_X6_15 (fun _ h9 => h9) rfl hin rfl (tyX_at tyX6_ok (by decide)) rfl rfl (Nat.le_of_ble_eq_true rfl) ?_
  refine v_aload_n C dX6_init_19 rfl rfl ?_
  refine v_iload C dX6_init_20 rfl ?_
  refine v_putF C dX6_init_22 6 (va_up_self _ _ _) rfl in_X6 tyX6 tyX6_ok nmX6 (by decide) g_fl_X6_18 (fun _ h9 => h9) rfl hin rfl (tyX_at tyX6_ok (by decide)) rfl rfl (Nat.le_of_ble_eq_true rfl) ?_
  exact v_vret C hr hlk dX6_init_25 (Nat.le_refl _) (Nat.le_refl _) (by rw [bx_uu, bx_uu, bx_uu]; rfl)

set_option maxHeartbeats 4000000 in
set_option maxRecDepth 100000 in
theorem c_Names_init (l : Launch) (D : va_G) (B : Nat) (K : Nat → ClassId) (f : St) (a0 : Nat) (num ar fi sz : Int32) (x0 x1 x2 x3 x4 x5 : Value) (h0 : f a0 = some (.inr (4, [x0, x1, x2, x3, x4, x5]))) : Kc l D B K yX4_init cX4_init 5 none 3 0 0 [.ref a0, .int num, .int ar, .int fi, .int sz] f (Qv_ D B (fun f9 => f9 = va_up f a0 (some (.inr (4, [.int num, .int 2, .int 1, .long sz.toInt64, .int ar, .int fi]))))) := by
  refine v_met [(0, .ref a0), (1, .int num), (2, .int ar), (3, .int fi), (4, .int sz)] (by decide) (Nat.le_of_ble_eq_true rfl) rfl ?_
  intro p e s m args below meth c C hr hlk hin
  refine v_aload_n C dX4_init_0 rfl rfl ?_
  refine v_iload_n C dX4_init_1 rfl rfl ?_
  refine v_iconst (v := 2) C dX4_init_2 (by decide) ?_
  refine v_iload C dX4_init_3 rfl ?_
  refine v_i2l C dX4_init_5 ?_
  refine v_cv (r_I C (c_Single_init_X4 l D B K _ a0 _ _ _ _ _ _ _ _ _ h0) dX4_init_6 g_ml_X4_3 g_im_yX7_init g_in_X7 g_cd_yX7_init rfl (rn_le (by decide)) (by decide) rfl hdn_yX7_init (Nat.le_of_ble_eq_true rfl) ⟨Nat.le_of_ble_eq_true rfl, Nat.le_of_ble_eq_true rfl⟩) (fun f_6 hp_6 => ?_)
  subst hp_6
  refine v_aload_n C dX4_init_9 rfl rfl ?_
  refine v_iload_n C dX4_init_10 rfl rfl ?_
  refine v_putF C dX4_init_11 4 (va_up_self _ _ _) rfl in_X4 tyX4 tyX4_ok nmX4 (by decide) g_fl_X4_9 (fun _ h9 => h9) rfl hin rfl (tyX_at tyX4_ok (by decide)) rfl rfl (Nat.le_of_ble_eq_true rfl) ?_
  refine v_aload_n C dX4_init_14 rfl rfl ?_
  refine v_iload_n C dX4_init_15 rfl rfl ?_
  refine v_putF C dX4_init_16 5 (va_up_self _ _ _) rfl in_X4 tyX4 tyX4_ok nmX4 (by decide) g_fl_X4_15 (fun _ h9 => h9) rfl hin rfl (tyX_at tyX4_ok (by decide)) rfl rfl (Nat.le_of_ble_eq_true rfl) ?_
  exact v_vret C hr hlk dX4_init_19 (Nat.le_refl _) (Nat.le_refl _) (by rw [bx_uu, bx_uu]; rfl)

set_option maxHeartbeats 4000000 in
set_option maxRecDepth 100000 in
theorem c_Back_init_X0 (l : Launch) (D : va_G) (B : Nat) (K : Nat → ClassId) (f : St) (a0 b0 : Nat) (num w : Int32) (sz : Int64) (n0 n1 y4 : Value) (x0 x1 x2 x3 x4 : Value) (h0 : f a0 = some (.inr (0, [x0, x1, x2, x3, x4]))) (h1 : f b0 = some (.inr (0, [n0, n1, .int w, .long sz, y4]))) : Kc l D B K yX0_init cX0_init 3 none 2 0 0 [.ref a0, .int num, .ref b0] f (Qv_ D B (fun f9 => f9 = va_up f a0 (some (.inr (0, [.int num, .int 4, .int w, .long sz, .ref b0]))))) := by
  refine v_met [(0, .ref a0), (1, .int num), (2, .ref b0)] (by decide) (Nat.le_of_ble_eq_true rfl) rfl ?_
  intro p e s m args below meth c C hr hlk hin
  refine v_aload_n C dX0_init_0 rfl rfl ?_
  refine v_iload_n C dX0_init_1 rfl rfl ?_
  refine v_iconst (v := 4) C dX0_init_2 (by decide) ?_
  refine v_aload_n C dX0_init_3 rfl rfl ?_
  refine v_get C dX0_init_4 2 h1 rfl in_X0 (by decide) g_fl_X0_3 (fun _ h9 => h9) rfl ?_
  refine v_aload_n C dX0_init_7 rfl rfl ?_
  refine v_get C dX0_init_8 3 h1 rfl in_X0 (by decide) g_fl_X0_9 (fun _ h9 => h9) rfl ?_
  refine v_cv (r_I C (c_Range_init_X0 l D B K _ a0 _ _ _ _ _ _ _ _ _ h0) dX0_init_11 g_ml_X0_13 g_im_yX5_init g_in_X5 g_cd_yX5_init rfl (rn_le (by decide)) (by decide) rfl hdn_yX5_init (Nat.le_of_ble_eq_true rfl) ⟨Nat.le_of_ble_eq_true rfl, Nat.le_of_ble_eq_true rfl⟩) (fun f_11 hp_11 => ?_)
  subst hp_11
  refine v_aload_n C dX0_init_14 rfl rfl ?_
  refine v_aload_n C dX0_init_15 rfl rfl ?_
  refine v_putF C dX0_init_16 4 (va_up_self _ _ _) rfl in_X0 tyX0 tyX0_ok nmX0 (by decide) g_fl_X0_17 (fun _ h9 => h9) rfl hin rfl (tyX_at tyX0_ok (by decide)) rfl rfl (Nat.le_of_ble_eq_true rfl) ?_
  exact v_vret C hr hlk dX0_init_19 (Nat.le_refl _) (Nat.le_refl _) (by rw [bx_uu]; rfl)

set_option maxHeartbeats 4000000 in
set_option maxRecDepth 100000 in
theorem c_Back_init_X1 (l : Launch) (D : va_G) (B : Nat) (K : Nat → ClassId) (f : St) (a0 b0 : Nat) (num w : Int32) (sz : Int64) (n0 n1 y4 : Value) (x0 x1 x2 x3 x4 : Value) (h0 : f a0 = some (.inr (0, [x0, x1, x2, x3, x4]))) (h1 : f b0 = some (.inr (1, [n0, n1, .int w, .long sz, y4]))) : Kc l D B K yX0_init cX0_init 3 none 2 0 0 [.ref a0, .int num, .ref b0] f (Qv_ D B (fun f9 => f9 = va_up f a0 (some (.inr (0, [.int num, .int 4, .int w, .long sz, .ref b0]))))) := by
  refine v_met [(0, .ref a0), (1, .int num), (2, .ref b0)] (by decide) (Nat.le_of_ble_eq_true rfl) rfl ?_
  intro p e s m args below meth c C hr hlk hin
  refine v_aload_n C dX0_init_0 rfl rfl ?_
  refine v_iload_n C dX0_init_1 rfl rfl ?_
  refine v_iconst (v := 4) C dX0_init_2 (by decide) ?_
  refine v_aload_n C dX0_init_3 rfl rfl ?_
  refine v_get C dX0_init_4 2 h1 rfl in_X1 (by decide) g_fl_X0_3 (fun _ h9 => h9) rfl ?_
  refine v_aload_n C dX0_init_7 rfl rfl ?_
  refine v_get C dX0_init_8 3 h1 rfl in_X1 (by decide) g_fl_X0_9 (fun _ h9 => h9) rfl ?_
  refine v_cv (r_I C (c_Range_init_X0 l D B K _ a0 _ _ _ _ _ _ _ _ _ h0) dX0_init_11 g_ml_X0_13 g_im_yX5_init g_in_X5 g_cd_yX5_init rfl (rn_le (by decide)) (by decide) rfl hdn_yX5_init (Nat.le_of_ble_eq_true rfl) ⟨Nat.le_of_ble_eq_true rfl, Nat.le_of_ble_eq_true rfl⟩) (fun f_11 hp_11 => ?_)
  subst hp_11
  refine v_aload_n C dX0_init_14 rfl rfl ?_
  refine v_aload_n C dX0_init_15 rfl rfl ?_
  refine v_putF C dX0_init_16 4 (va_up_self _ _ _) rfl in_X0 tyX0 tyX0_ok nmX0 (by decide) g_fl_X0_17 (fun _ h9 => h9) rfl hin rfl (tyX_at tyX0_ok (by decide)) rfl rfl (Nat.le_of_ble_eq_true rfl) ?_
  exact v_vret C hr hlk dX0_init_19 (Nat.le_refl _) (Nat.le_refl _) (by rw [bx_uu]; rfl)

set_option maxHeartbeats 4000000 in
set_option maxRecDepth 100000 in
theorem c_Back_init_X4 (l : Launch) (D : va_G) (B : Nat) (K : Nat → ClassId) (f : St) (a0 b0 : Nat) (num w : Int32) (sz : Int64) (n0 n1 y4 y5 : Value) (x0 x1 x2 x3 x4 : Value) (h0 : f a0 = some (.inr (0, [x0, x1, x2, x3, x4]))) (h1 : f b0 = some (.inr (4, [n0, n1, .int w, .long sz, y4, y5]))) : Kc l D B K yX0_init cX0_init 3 none 2 0 0 [.ref a0, .int num, .ref b0] f (Qv_ D B (fun f9 => f9 = va_up f a0 (some (.inr (0, [.int num, .int 4, .int w, .long sz, .ref b0]))))) := by
  refine v_met [(0, .ref a0), (1, .int num), (2, .ref b0)] (by decide) (Nat.le_of_ble_eq_true rfl) rfl ?_
  intro p e s m args below meth c C hr hlk hin
  refine v_aload_n C dX0_init_0 rfl rfl ?_
  refine v_iload_n C dX0_init_1 rfl rfl ?_
  refine v_iconst (v := 4) C dX0_init_2 (by decide) ?_
  refine v_aload_n C dX0_init_3 rfl rfl ?_
  refine v_get C dX0_init_4 2 h1 rfl in_X4 (by decide) g_fl_X0_3 (fun _ h9 => h9) rfl ?_
  refine v_aload_n C dX0_init_7 rfl rfl ?_
  refine v_get C dX0_init_8 3 h1 rfl in_X4 (by decide) g_fl_X0_9 (fun _ h9 => h9) rfl ?_
  refine v_cv (r_I C (c_Range_init_X0 l D B K _ a0 _ _ _ _ _ _ _ _ _ h0) dX0_init_11 g_ml_X0_13 g_im_yX5_init g_in_X5 g_cd_yX5_init rfl (rn_le (by decide)) (by decide) rfl hdn_yX5_init (Nat.le_of_ble_eq_true rfl) ⟨Nat.le_of_ble_eq_true rfl, Nat.le_of_ble_eq_true rfl⟩) (fun f_11 hp_11 => ?_)
  subst hp_11
  refine v_aload_n C dX0_init_14 rfl rfl ?_
  refine v_aload_n C dX0_init_15 rfl rfl ?_
  refine v_putF C dX0_init_16 4 (va_up_self _ _ _) rfl in_X0 tyX0 tyX0_ok nmX0 (by decide) g_fl_X0_17 (fun _ h9 => h9) rfl hin rfl (tyX_at tyX0_ok (by decide)) rfl rfl (Nat.le_of_ble_eq_true rfl) ?_
  exact v_vret C hr hlk dX0_init_19 (Nat.le_refl _) (Nat.le_refl _) (by rw [bx_uu]; rfl)

set_option maxHeartbeats 4000000 in
set_option maxRecDepth 100000 in
theorem c_Back_init_X6 (l : Launch) (D : va_G) (B : Nat) (K : Nat → ClassId) (f : St) (a0 b0 : Nat) (num w : Int32) (sz : Int64) (n0 n1 y4 y5 y6 : Value) (x0 x1 x2 x3 x4 : Value) (h0 : f a0 = some (.inr (0, [x0, x1, x2, x3, x4]))) (h1 : f b0 = some (.inr (5, [n0, n1, .int w, .long sz, y4, y5, y6]))) : Kc l D B K yX0_init cX0_init 3 none 2 0 0 [.ref a0, .int num, .ref b0] f (Qv_ D B (fun f9 => f9 = va_up f a0 (some (.inr (0, [.int num, .int 4, .int w, .long sz, .ref b0]))))) := by
  refine v_met [(0, .ref a0), (1, .int num), (2, .ref b0)] (by decide) (Nat.le_of_ble_eq_true rfl) rfl ?_
  intro p e s m args below meth c C hr hlk hin
  refine v_aload_n C dX0_init_0 rfl rfl ?_
  refine v_iload_n C dX0_init_1 rfl rfl ?_
  refine v_iconst (v := 4) C dX0_init_2 (by decide) ?_
  refine v_aload_n C dX0_init_3 rfl rfl ?_
  refine v_get C dX0_init_4 2 h1 rfl in_X6 (by decide) g_fl_X0_3 (fun _ h9 => h9) rfl ?_
  refine v_aload_n C dX0_init_7 rfl rfl ?_
  refine v_get C dX0_init_8 3 h1 rfl in_X6 (by decide) g_fl_X0_9 (fun _ h9 => h9) rfl ?_
  refine v_cv (r_I C (c_Range_init_X0 l D B K _ a0 _ _ _ _ _ _ _ _ _ h0) dX0_init_11 g_ml_X0_13 g_im_yX5_init g_in_X5 g_cd_yX5_init rfl (rn_le (by decide)) (by decide) rfl hdn_yX5_init (Nat.le_of_ble_eq_true rfl) ⟨Nat.le_of_ble_eq_true rfl, Nat.le_of_ble_eq_true rfl⟩) (fun f_11 hp_11 => ?_)
  subst hp_11
  refine v_aload_n C dX0_init_14 rfl rfl ?_
  refine v_aload_n C dX0_init_15 rfl rfl ?_
  refine v_putF C dX0_init_16 4 (va_up_self _ _ _) rfl in_X0 tyX0 tyX0_ok nmX0 (by decide) g_fl_X0_17 (fun _ h9 => h9) rfl hin rfl (tyX_at tyX0_ok (by decide)) rfl rfl (Nat.le_of_ble_eq_true rfl) ?_
  exact v_vret C hr hlk dX0_init_19 (Nat.le_refl _) (Nat.le_refl _) (by rw [bx_uu]; rfl)

set_option maxHeartbeats 4000000 in
set_option maxRecDepth 100000 in
theorem c_Beside_init (l : Launch) (D : va_G) (B : Nat) (K : Nat → ClassId) (f : St) (a0 b0 : Nat) (num kd w : Int32) (sz : Int64) (x0 x1 x2 x3 x4 : Value) (h0 : f a0 = some (.inr (1, [x0, x1, x2, x3, x4]))) : Kc l D B K yX1_init cX1_init 7 none 2 0 0 [.ref a0, .int num, .int kd, .int w, .long sz, .ref b0] f (Qv_ D B (fun f9 => f9 = va_up f a0 (some (.inr (1, [.int num, .int kd, .int w, .long sz, .ref b0]))))) := by
  refine v_met [(0, .ref a0), (1, .int num), (2, .int kd), (3, .int w), (4, .long sz), (6, .ref b0)] (by decide) (Nat.le_of_ble_eq_true rfl) rfl ?_
  intro p e s m args below meth c C hr hlk hin
  refine v_aload_n C dX1_init_0 rfl rfl ?_
  refine v_iload_n C dX1_init_1 rfl rfl ?_
  refine v_iload_n C dX1_init_2 rfl rfl ?_
  refine v_iload_n C dX1_init_3 rfl rfl ?_
  refine v_lload C dX1_init_4 rfl ?_
  refine v_cv (r_I C (c_Range_init_X1 l D B K _ a0 _ _ _ _ _ _ _ _ _ h0) dX1_init_6 g_ml_X1_3 g_im_yX5_init g_in_X5 g_cd_yX5_init rfl (rn_le (by decide)) (by decide) rfl hdn_yX5_init (Nat.le_of_ble_eq_true rfl) ⟨Nat.le_of_ble_eq_true rfl, Nat.le_of_ble_eq_true rfl⟩) (fun f_6 hp_6 => ?_)
  subst hp_6
  refine v_aload_n C dX1_init_9 rfl rfl ?_
  refine v_aload C dX1_init_10 rfl ?_
  refine v_putF C dX1_init_12 4 (va_up_self _ _ _) rfl in_X1 tyX1 tyX1_ok nmX1 (by decide) g_fl_X1_9 (fun _ h9 => h9) rfl hin rfl (tyX_at tyX1_ok (by decide)) rfl rfl (Nat.le_of_ble_eq_true rfl) ?_
  exact v_vret C hr hlk dX1_init_15 (Nat.le_refl _) (Nat.le_refl _) (by rw [bx_uu]; rfl)

def rchC (sz k : Int64) : Int32 := if k < (0 : Int64) then ((0 : Int32)) else if sz = (-1 : Int64) then ((1 : Int32)) else if sz ≤ k then ((0 : Int32)) else ((1 : Int32))
set_option maxHeartbeats 4000000 in
set_option maxRecDepth 100000 in
theorem c_reaches_X0 (l : Launch) (D : va_G) (B : Nat) (K : Nat → ClassId) (f : St) (a0 : Nat) (sz k : Int64) (n0 n1 n2 y4 : Value) (h0 : f a0 = some (.inr (0, [n0, n1, n2, .long sz, y4]))) : Kc l D B K yX5_reaches cX5_reaches 3 (some .boolean) 0 0 0 [.ref a0, .long k] f (Qi_ D B (fun r f9 => r = rchC sz k ∧ f9 = f)) := by
  refine v_met [(0, .ref a0), (1, .long k)] (by decide) (Nat.le_of_ble_eq_true rfl) rfl ?_
  intro p e s m args below meth c C hr hlk hin
  refine v_lload_n C dX5_reaches_0 rfl rfl ?_
  refine v_lconst (v := 0) C dX5_reaches_1 (by decide) ?_
  refine v_lc_lt (tgt := 30) C dX5_reaches_2 dX5_reaches_3 (by decide) (fun c_2 => ?_) (fun c_2 => ?_)
  · refine v_iconst (v := 0) C dX5_reaches_30 (by decide) ?_
    exact v_zret C hr hlk dX5_reaches_31 rfl (Nat.le_refl _) (Nat.le_refl _) ⟨by unfold rchC; rw [if_pos c_2], rfl⟩
  · refine v_aload_n C dX5_reaches_6 rfl rfl ?_
    refine v_get C dX5_reaches_7 3 h0 rfl in_X0 (by decide) g_fl_X5_21 (fun _ h9 => h9) rfl ?_
    refine v_ldc2 C dX5_reaches_10 g_kl_X5_25 ?_
    refine v_lc_eq (tgt := 26) C dX5_reaches_13 dX5_reaches_14 (by decide) (fun c_13 => ?_) (fun c_13 => ?_)
    · refine v_iconst (v := 1) C dX5_reaches_26 (by decide) ?_
      refine v_goto (tgt := 31) C dX5_reaches_27 (by decide) ?_
      exact v_zret C hr hlk dX5_reaches_31 rfl (Nat.le_refl _) (Nat.le_refl _) ⟨by unfold rchC; rw [if_neg c_2, if_pos c_13], rfl⟩
    · refine v_lload_n C dX5_reaches_17 rfl rfl ?_
      refine v_aload_n C dX5_reaches_18 rfl rfl ?_
      refine v_get C dX5_reaches_19 3 h0 rfl in_X0 (by decide) g_fl_X5_21 (fun _ h9 => h9) rfl ?_
      refine v_lc_ge (tgt := 30) C dX5_reaches_22 dX5_reaches_23 (by decide) (fun c_22 => ?_) (fun c_22 => ?_)
      · refine v_iconst (v := 0) C dX5_reaches_30 (by decide) ?_
        exact v_zret C hr hlk dX5_reaches_31 rfl (Nat.le_refl _) (Nat.le_refl _) ⟨by unfold rchC; rw [if_neg c_2, if_neg c_13, if_pos c_22], rfl⟩
      · refine v_iconst (v := 1) C dX5_reaches_26 (by decide) ?_
        refine v_goto (tgt := 31) C dX5_reaches_27 (by decide) ?_
        exact v_zret C hr hlk dX5_reaches_31 rfl (Nat.le_refl _) (Nat.le_refl _) ⟨by unfold rchC; rw [if_neg c_2, if_neg c_13, if_neg c_22], rfl⟩

set_option maxHeartbeats 4000000 in
set_option maxRecDepth 100000 in
theorem c_reaches_X1 (l : Launch) (D : va_G) (B : Nat) (K : Nat → ClassId) (f : St) (a0 : Nat) (sz k : Int64) (n0 n1 n2 y4 : Value) (h0 : f a0 = some (.inr (1, [n0, n1, n2, .long sz, y4]))) : Kc l D B K yX5_reaches cX5_reaches 3 (some .boolean) 0 0 0 [.ref a0, .long k] f (Qi_ D B (fun r f9 => r = rchC sz k ∧ f9 = f)) := by
  refine v_met [(0, .ref a0), (1, .long k)] (by decide) (Nat.le_of_ble_eq_true rfl) rfl ?_
  intro p e s m args below meth c C hr hlk hin
  refine v_lload_n C dX5_reaches_0 rfl rfl ?_
  refine v_lconst (v := 0) C dX5_reaches_1 (by decide) ?_
  refine v_lc_lt (tgt := 30) C dX5_reaches_2 dX5_reaches_3 (by decide) (fun c_2 => ?_) (fun c_2 => ?_)
  · refine v_iconst (v := 0) C dX5_reaches_30 (by decide) ?_
    exact v_zret C hr hlk dX5_reaches_31 rfl (Nat.le_refl _) (Nat.le_refl _) ⟨by unfold rchC; rw [if_pos c_2], rfl⟩
  · refine v_aload_n C dX5_reaches_6 rfl rfl ?_
    refine v_get C dX5_reaches_7 3 h0 rfl in_X1 (by decide) g_fl_X5_21 (fun _ h9 => h9) rfl ?_
    refine v_ldc2 C dX5_reaches_10 g_kl_X5_25 ?_
    refine v_lc_eq (tgt := 26) C dX5_reaches_13 dX5_reaches_14 (by decide) (fun c_13 => ?_) (fun c_13 => ?_)
    · refine v_iconst (v := 1) C dX5_reaches_26 (by decide) ?_
      refine v_goto (tgt := 31) C dX5_reaches_27 (by decide) ?_
      exact v_zret C hr hlk dX5_reaches_31 rfl (Nat.le_refl _) (Nat.le_refl _) ⟨by unfold rchC; rw [if_neg c_2, if_pos c_13], rfl⟩
    · refine v_lload_n C dX5_reaches_17 rfl rfl ?_
      refine v_aload_n C dX5_reaches_18 rfl rfl ?_
      refine v_get C dX5_reaches_19 3 h0 rfl in_X1 (by decide) g_fl_X5_21 (fun _ h9 => h9) rfl ?_
      refine v_lc_ge (tgt := 30) C dX5_reaches_22 dX5_reaches_23 (by decide) (fun c_22 => ?_) (fun c_22 => ?_)
      · refine v_iconst (v := 0) C dX5_reaches_30 (by decide) ?_
        exact v_zret C hr hlk dX5_reaches_31 rfl (Nat.le_refl _) (Nat.le_refl _) ⟨by unfold rchC; rw [if_neg c_2, if_neg c_13, if_pos c_22], rfl⟩
      · refine v_iconst (v := 1) C dX5_reaches_26 (by decide) ?_
        refine v_goto (tgt := 31) C dX5_reaches_27 (by decide) ?_
        exact v_zret C hr hlk dX5_reaches_31 rfl (Nat.le_refl _) (Nat.le_refl _) ⟨by unfold rchC; rw [if_neg c_2, if_neg c_13, if_neg c_22], rfl⟩

set_option maxHeartbeats 4000000 in
set_option maxRecDepth 100000 in
theorem c_reaches_X4 (l : Launch) (D : va_G) (B : Nat) (K : Nat → ClassId) (f : St) (a0 : Nat) (sz k : Int64) (n0 n1 n2 y4 y5 : Value) (h0 : f a0 = some (.inr (4, [n0, n1, n2, .long sz, y4, y5]))) : Kc l D B K yX5_reaches cX5_reaches 3 (some .boolean) 0 0 0 [.ref a0, .long k] f (Qi_ D B (fun r f9 => r = rchC sz k ∧ f9 = f)) := by
  refine v_met [(0, .ref a0), (1, .long k)] (by decide) (Nat.le_of_ble_eq_true rfl) rfl ?_
  intro p e s m args below meth c C hr hlk hin
  refine v_lload_n C dX5_reaches_0 rfl rfl ?_
  refine v_lconst (v := 0) C dX5_reaches_1 (by decide) ?_
  refine v_lc_lt (tgt := 30) C dX5_reaches_2 dX5_reaches_3 (by decide) (fun c_2 => ?_) (fun c_2 => ?_)
  · refine v_iconst (v := 0) C dX5_reaches_30 (by decide) ?_
    exact v_zret C hr hlk dX5_reaches_31 rfl (Nat.le_refl _) (Nat.le_refl _) ⟨by unfold rchC; rw [if_pos c_2], rfl⟩
  · refine v_aload_n C dX5_reaches_6 rfl rfl ?_
    refine v_get C dX5_reaches_7 3 h0 rfl in_X4 (by decide) g_fl_X5_21 (fun _ h9 => h9) rfl ?_
    refine v_ldc2 C dX5_reaches_10 g_kl_X5_25 ?_
    refine v_lc_eq (tgt := 26) C dX5_reaches_13 dX5_reaches_14 (by decide) (fun c_13 => ?_) (fun c_13 => ?_)
    · refine v_iconst (v := 1) C dX5_reaches_26 (by decide) ?_
      refine v_goto (tgt := 31) C dX5_reaches_27 (by decide) ?_
      exact v_zret C hr hlk dX5_reaches_31 rfl (Nat.le_refl _) (Nat.le_refl _) ⟨by unfold rchC; rw [if_neg c_2, if_pos c_13], rfl⟩
    · refine v_lload_n C dX5_reaches_17 rfl rfl ?_
      refine v_aload_n C dX5_reaches_18 rfl rfl ?_
      refine v_get C dX5_reaches_19 3 h0 rfl in_X4 (by decide) g_fl_X5_21 (fun _ h9 => h9) rfl ?_
      refine v_lc_ge (tgt := 30) C dX5_reaches_22 dX5_reaches_23 (by decide) (fun c_22 => ?_) (fun c_22 => ?_)
      · refine v_iconst (v := 0) C dX5_reaches_30 (by decide) ?_
        exact v_zret C hr hlk dX5_reaches_31 rfl (Nat.le_refl _) (Nat.le_refl _) ⟨by unfold rchC; rw [if_neg c_2, if_neg c_13, if_pos c_22], rfl⟩
      · refine v_iconst (v := 1) C dX5_reaches_26 (by decide) ?_
        refine v_goto (tgt := 31) C dX5_reaches_27 (by decide) ?_
        exact v_zret C hr hlk dX5_reaches_31 rfl (Nat.le_refl _) (Nat.le_refl _) ⟨by unfold rchC; rw [if_neg c_2, if_neg c_13, if_neg c_22], rfl⟩

set_option maxHeartbeats 4000000 in
set_option maxRecDepth 100000 in
theorem c_reaches_X6 (l : Launch) (D : va_G) (B : Nat) (K : Nat → ClassId) (f : St) (a0 : Nat) (sz k : Int64) (n0 n1 n2 y4 y5 y6 : Value) (h0 : f a0 = some (.inr (5, [n0, n1, n2, .long sz, y4, y5, y6]))) : Kc l D B K yX5_reaches cX5_reaches 3 (some .boolean) 0 0 0 [.ref a0, .long k] f (Qi_ D B (fun r f9 => r = rchC sz k ∧ f9 = f)) := by
  refine v_met [(0, .ref a0), (1, .long k)] (by decide) (Nat.le_of_ble_eq_true rfl) rfl ?_
  intro p e s m args below meth c C hr hlk hin
  refine v_lload_n C dX5_reaches_0 rfl rfl ?_
  refine v_lconst (v := 0) C dX5_reaches_1 (by decide) ?_
  refine v_lc_lt (tgt := 30) C dX5_reaches_2 dX5_reaches_3 (by decide) (fun c_2 => ?_) (fun c_2 => ?_)
  · refine v_iconst (v := 0) C dX5_reaches_30 (by decide) ?_
    exact v_zret C hr hlk dX5_reaches_31 rfl (Nat.le_refl _) (Nat.le_refl _) ⟨by unfold rchC; rw [if_pos c_2], rfl⟩
  · refine v_aload_n C dX5_reaches_6 rfl rfl ?_
    refine v_get C dX5_reaches_7 3 h0 rfl in_X6 (by decide) g_fl_X5_21 (fun _ h9 => h9) rfl ?_
    refine v_ldc2 C dX5_reaches_10 g_kl_X5_25 ?_
    refine v_lc_eq (tgt := 26) C dX5_reaches_13 dX5_reaches_14 (by decide) (fun c_13 => ?_) (fun c_13 => ?_)
    · refine v_iconst (v := 1) C dX5_reaches_26 (by decide) ?_
      refine v_goto (tgt := 31) C dX5_reaches_27 (by decide) ?_
      exact v_zret C hr hlk dX5_reaches_31 rfl (Nat.le_refl _) (Nat.le_refl _) ⟨by unfold rchC; rw [if_neg c_2, if_pos c_13], rfl⟩
    · refine v_lload_n C dX5_reaches_17 rfl rfl ?_
      refine v_aload_n C dX5_reaches_18 rfl rfl ?_
      refine v_get C dX5_reaches_19 3 h0 rfl in_X6 (by decide) g_fl_X5_21 (fun _ h9 => h9) rfl ?_
      refine v_lc_ge (tgt := 30) C dX5_reaches_22 dX5_reaches_23 (by decide) (fun c_22 => ?_) (fun c_22 => ?_)
      · refine v_iconst (v := 0) C dX5_reaches_30 (by decide) ?_
        exact v_zret C hr hlk dX5_reaches_31 rfl (Nat.le_refl _) (Nat.le_refl _) ⟨by unfold rchC; rw [if_neg c_2, if_neg c_13, if_pos c_22], rfl⟩
      · refine v_iconst (v := 1) C dX5_reaches_26 (by decide) ?_
        refine v_goto (tgt := 31) C dX5_reaches_27 (by decide) ?_
        exact v_zret C hr hlk dX5_reaches_31 rfl (Nat.le_refl _) (Nat.le_refl _) ⟨by unfold rchC; rw [if_neg c_2, if_neg c_13, if_neg c_22], rfl⟩

set_option maxHeartbeats 4000000 in
set_option maxRecDepth 100000 in
theorem c_Back_madeOf (l : Launch) (D : va_G) (B : Nat) (K : Nat → ClassId) (f : St) (a0 : Nat) : Kc l D B K yX0_madeOf cX0_madeOf 1 (some .int) 0 0 0 [.ref a0] f (Qi_ D B (fun r f9 => r = 1 ∧ f9 = f)) := by
  refine v_met [(0, .ref a0)] (by decide) (Nat.le_of_ble_eq_true rfl) rfl ?_
  intro p e s m args below meth c C hr hlk hin
  refine v_iconst (v := 1) C dX0_madeOf_0 (by decide) ?_
  exact v_iret C hr hlk dX0_madeOf_1 (Nat.le_refl _) (Nat.le_refl _) ⟨rfl, rfl⟩

set_option maxHeartbeats 4000000 in
set_option maxRecDepth 100000 in
theorem c_Single_madeOf (l : Launch) (D : va_G) (B : Nat) (K : Nat → ClassId) (f : St) (a0 : Nat) : Kc l D B K yX7_madeOf cX7_madeOf 1 (some .int) 0 0 0 [.ref a0] f (Qi_ D B (fun r f9 => r = 0 ∧ f9 = f)) := by
  refine v_met [(0, .ref a0)] (by decide) (Nat.le_of_ble_eq_true rfl) rfl ?_
  intro p e s m args below meth c C hr hlk hin
  refine v_iconst (v := 0) C dX7_madeOf_0 (by decide) ?_
  exact v_iret C hr hlk dX7_madeOf_1 (Nat.le_refl _) (Nat.le_refl _) ⟨rfl, rfl⟩

set_option maxHeartbeats 4000000 in
set_option maxRecDepth 100000 in
theorem c_Beside_madeOf (l : Launch) (D : va_G) (B : Nat) (K : Nat → ClassId) (f : St) (a0 pa len : Nat) (g : Nat → Option Nat) (x0 x1 x2 x3 : Value) (h0 : f a0 = some (.inr (1, [x0, x1, x2, x3, .ref pa]))) (h1 : f pa = some (.inl (K 3, len, .inr (.inr (.inr (.inr g)))))) : Kc l D B K yX1_madeOf cX1_madeOf 1 (some .int) 0 0 0 [.ref a0] f (Qi_ D B (fun r f9 => r = nI len ∧ f9 = f)) := by
  refine v_met [(0, .ref a0)] (by decide) (Nat.le_of_ble_eq_true rfl) rfl ?_
  intro p e s m args below meth c C hr hlk hin
  refine v_aload_n C dX1_madeOf_0 rfl rfl ?_
  refine v_get C dX1_madeOf_1 4 h0 rfl in_X1 (by decide) g_fl_X1_9 (fun _ h9 => h9) rfl ?_
  refine v_alen C dX1_madeOf_4 3 h1 rfl rfl ?_
  exact v_iret C hr hlk dX1_madeOf_5 (Nat.le_refl _) (Nat.le_refl _) ⟨rfl, rfl⟩
end
section
/-! loops: Arrays.fill, Hand.drop -/
theorem lsub_n {lv : Lv} : lsub lv [] := trivial
theorem lsub_c {lv : Lv} {i : Nat} {v : Value} {t : List (Nat × Value)} (h : lk lv i = some v) (ht : lsub lv t) : lsub lv ((i, v) :: t) := ⟨h, ht⟩
theorem nI_lt_of {i n : Nat} (hi : i ≤ n) (hn : n < 2 ^ 31) (h : ¬ nI n ≤ nI i) : i < n := by
  rcases Nat.lt_or_ge i n with q | q
  · exact q
  · exact absurd (by rw [nI_leI hn (by omega)]; exact q) h
set_option maxHeartbeats 4000000 in
set_option maxRecDepth 100000 in
theorem L_fillJ {p : Program} {l : Launch} {e : Env} {R : Room} {s : State} {m : MethodId} {args : Array Value} {below : List Frame} {meth : Method} {c : Code} {D : va_G} {B : Nat} {K : Nat → ClassId} (C : Cx p s m args c cJ7_fill_d0a16 5 yJ7_fill_d0a16.cls D B K) (hr : meth.sig.returnType = none) (hlk : meth.locks = false) (f : St) (a0 N : Nat) (v : Int64) (hN : N < 2 ^ 31) : ∀ (n i : Nat) (g : Nat → Int64), i ≤ N → N + 1 ≤ i + n → (∀ j, j < i → g j = v) → V p l e R s m args below meth c D B 5 (MQ below (Qv_ D B (fun f9 => ∃ g9 : Nat → Int64, (∀ j, j < N → g9 j = v) ∧ f9 = va_up f a0 (some (.inl (K 1, N, .inr (.inl g9)))))) args s 0 0 (AB B)) 0 0 (va_up f a0 (some (.inl (K 1, N, .inr (.inl g))))) (lof [(0, .ref a0), (1, .long v), (3, .int (nI i)), (4, .int (nI N))]) 6 [] := by
  intro n
  induction n with
  | zero => intro i g h1 h2; omega
  | succ n ih =>
    intro i g hi hin hg
    refine v_iload_n C dJ7_fill_d0a16_6 rfl rfl ?_
    refine v_iload C dJ7_fill_d0a16_7 rfl ?_
    refine v_icmp_ge (tgt := 22) C dJ7_fill_d0a16_9 (by decide) (fun c_9 => ?_) (fun c_9 => ?_)
    · exact v_vret C hr hlk dJ7_fill_d0a16_22 (Nat.le_refl _) (Nat.le_refl _) ⟨g, fun j hj => hg j (by have h9 := (nI_leI hN (by omega)).mp c_9; omega), rfl⟩
    · refine v_aload_n C dJ7_fill_d0a16_12 rfl rfl ?_
      refine v_iload_n C dJ7_fill_d0a16_13 rfl rfl ?_
      refine v_lload_n C dJ7_fill_d0a16_14 rfl rfl ?_
      refine v_last C dJ7_fill_d0a16_15 (va_up_self _ _ _) (vp_in_nI (nI_lt_of hi hN c_9) hN) ?_
      refine v_iinc (y := 1) C dJ7_fill_d0a16_16 rfl (by decide) (by decide) rfl ?_
      refine v_goto (tgt := 6) C dJ7_fill_d0a16_19 (by decide) ?_
      refine v_loc [(0, .ref a0), (1, .long v), (3, .int (nI (i + 1))), (4, .int (nI N))] (lsub_c rfl (lsub_c rfl (lsub_c (by rw [nI_succ]; rfl) (lsub_c rfl lsub_n)))) ?_
      rw [bx_uu]
      refine ih (i + 1) _ (nI_lt_of hi hN c_9) (by omega) (fun j hj => ?_)
      by_cases e9 : j = i
      · subst e9; simp [vp_updL, nI_clamp (show j < 2 ^ 31 by omega)]
      · rw [pk_uLn (by rw [nI_clamp (show i < 2 ^ 31 by omega)]; exact e9)]; exact hg j (by omega)
set_option maxHeartbeats 4000000 in
set_option maxRecDepth 100000 in
theorem c_fillJ (l : Launch) (D : va_G) (B : Nat) (K : Nat → ClassId) (f : St) (a0 N : Nat) (v : Int64) (g : Nat → Int64) (hN : N < 2 ^ 31) (h1 : f a0 = some (.inl (K 1, N, .inr (.inl g)))) : Kc l D B K yJ7_fill_d0a16 cJ7_fill_d0a16 5 none 0 0 0 [.ref a0, .long v] f (Qv_ D B (fun f9 => ∃ g9 : Nat → Int64, (∀ j, j < N → g9 j = v) ∧ f9 = va_up f a0 (some (.inl (K 1, N, .inr (.inl g9)))))) := by
  refine v_met [(0, .ref a0), (1, .long v)] (by decide) (Nat.le_of_ble_eq_true rfl) rfl ?_
  intro p e s m args below meth c C hr hlk hin
  refine v_iconst (v := 0) C dJ7_fill_d0a16_0 (by decide) ?_
  refine v_istore_n C dJ7_fill_d0a16_1 rfl (by decide) rfl ?_
  refine v_aload_n C dJ7_fill_d0a16_2 rfl rfl ?_
  refine v_alen C dJ7_fill_d0a16_3 1 h1 rfl rfl ?_
  refine v_istore C dJ7_fill_d0a16_4 (by decide) rfl ?_
  refine v_loc [(0, .ref a0), (1, .long v), (3, .int (nI 0)), (4, .int (nI N))] (lsub_c rfl (lsub_c rfl (lsub_c rfl (lsub_c rfl lsub_n)))) ?_
  have hL := L_fillJ C hr hlk f a0 N v hN (N + 1) 0 g (Nat.zero_le _) (by omega) (fun j hj => absurd hj (Nat.not_lt_zero _)) (R := RM 0 0 0) (l := l) (e := e) (below := below)
  rw [va_up_id h1] at hL
  exact hL

set_option maxHeartbeats 4000000 in
set_option maxRecDepth 100000 in
theorem L_fillI {p : Program} {l : Launch} {e : Env} {R : Room} {s : State} {m : MethodId} {args : Array Value} {below : List Frame} {meth : Method} {c : Code} {D : va_G} {B : Nat} {K : Nat → ClassId} (C : Cx p s m args c cJ7_fill_53178 4 yJ7_fill_53178.cls D B K) (hr : meth.sig.returnType = none) (hlk : meth.locks = false) (f : St) (a0 N : Nat) (v : Int32) (hN : N < 2 ^ 31) : ∀ (n i : Nat) (g : Nat → Int32), i ≤ N → N + 1 ≤ i + n → (∀ j, j < i → g j = v) → V p l e R s m args below meth c D B 4 (MQ below (Qv_ D B (fun f9 => ∃ g9 : Nat → Int32, (∀ j, j < N → g9 j = v) ∧ f9 = va_up f a0 (some (.inl (K 0, N, .inl g9))))) args s 0 0 (AB B)) 0 0 (va_up f a0 (some (.inl (K 0, N, .inl g)))) (lof [(0, .ref a0), (1, .int v), (2, .int (nI i)), (3, .int (nI N))]) 5 [] := by
  intro n
  induction n with
  | zero => intro i g h1 h2; omega
  | succ n ih =>
    intro i g hi hin hg
    refine v_iload_n C dJ7_fill_53178_5 rfl rfl ?_
    refine v_iload_n C dJ7_fill_53178_6 rfl rfl ?_
    refine v_icmp_ge (tgt := 20) C dJ7_fill_53178_7 (by decide) (fun c_7 => ?_) (fun c_7 => ?_)
    · exact v_vret C hr hlk dJ7_fill_53178_20 (Nat.le_refl _) (Nat.le_refl _) ⟨g, fun j hj => hg j (by have h9 := (nI_leI hN (by omega)).mp c_7; omega), rfl⟩
    · refine v_aload_n C dJ7_fill_53178_10 rfl rfl ?_
      refine v_iload_n C dJ7_fill_53178_11 rfl rfl ?_
      refine v_iload_n C dJ7_fill_53178_12 rfl rfl ?_
      refine v_iast C dJ7_fill_53178_13 (va_up_self _ _ _) (vp_in_nI (nI_lt_of hi hN c_7) hN) ?_
      refine v_iinc (y := 1) C dJ7_fill_53178_14 rfl (by decide) (by decide) rfl ?_
      refine v_goto (tgt := 5) C dJ7_fill_53178_17 (by decide) ?_
      refine v_loc [(0, .ref a0), (1, .int v), (2, .int (nI (i + 1))), (3, .int (nI N))] (lsub_c rfl (lsub_c rfl (lsub_c (by rw [nI_succ]; rfl) (lsub_c rfl lsub_n)))) ?_
      rw [bx_uu]
      refine ih (i + 1) _ (nI_lt_of hi hN c_7) (by omega) (fun j hj => ?_)
      by_cases e9 : j = i
      · subst e9; simp [upd, nI_clamp (show j < 2 ^ 31 by omega)]
      · rw [pk_un (by rw [nI_clamp (show i < 2 ^ 31 by omega)]; exact e9)]; exact hg j (by omega)
set_option maxHeartbeats 4000000 in
set_option maxRecDepth 100000 in
theorem c_fillI (l : Launch) (D : va_G) (B : Nat) (K : Nat → ClassId) (f : St) (a0 N : Nat) (v : Int32) (g : Nat → Int32) (hN : N < 2 ^ 31) (h1 : f a0 = some (.inl (K 0, N, .inl g))) : Kc l D B K yJ7_fill_53178 cJ7_fill_53178 4 none 0 0 0 [.ref a0, .int v] f (Qv_ D B (fun f9 => ∃ g9 : Nat → Int32, (∀ j, j < N → g9 j = v) ∧ f9 = va_up f a0 (some (.inl (K 0, N, .inl g9))))) := by
  refine v_met [(0, .ref a0), (1, .int v)] (by decide) (Nat.le_of_ble_eq_true rfl) rfl ?_
  intro p e s m args below meth c C hr hlk hin
  refine v_iconst (v := 0) C dJ7_fill_53178_0 (by decide) ?_
  refine v_istore_n C dJ7_fill_53178_1 rfl (by decide) rfl ?_
  refine v_aload_n C dJ7_fill_53178_2 rfl rfl ?_
  refine v_alen C dJ7_fill_53178_3 0 h1 rfl rfl ?_
  refine v_istore_n C dJ7_fill_53178_4 rfl (by decide) rfl ?_
  refine v_loc [(0, .ref a0), (1, .int v), (2, .int (nI 0)), (3, .int (nI N))] (lsub_c rfl (lsub_c rfl (lsub_c rfl (lsub_c rfl lsub_n)))) ?_
  have hL := L_fillI C hr hlk f a0 N v hN (N + 1) 0 g (Nat.zero_le _) (by omega) (fun j hj => absurd hj (Nat.not_lt_zero _)) (R := RM 0 0 0) (l := l) (e := e) (below := below)
  rw [va_up_id h1] at hL
  exact hL

set_option maxHeartbeats 4000000 in
set_option maxRecDepth 100000 in
theorem c_drop (l : Launch) (D : va_G) (B : Nat) (K : Nat → ClassId) (f : St) (a0 ha : Nat) (g : Nat → Int64) (h0 : f a0 = some (.inr (2, [.ref ha]))) (h1 : f ha = some (.inl (K 1, 8, .inr (.inl g)))) : Kc l D B K yX2_drop cX2_drop 1 none 1 0 0 [.ref a0] f (Qv_ D B (fun f9 => ∃ g9 : Nat → Int64, (∀ j, j < 8 → g9 j = 0) ∧ f9 = va_up f ha (some (.inl (K 1, 8, .inr (.inl g9)))))) := by
  refine v_met [(0, .ref a0)] (by decide) (Nat.le_of_ble_eq_true rfl) rfl ?_
  intro p e s m args below meth c C hr hlk hin
  refine v_aload_n C dX2_drop_0 rfl rfl ?_
  refine v_get C dX2_drop_1 0 h0 rfl in_X2 (by decide) g_fl_X2_9 (fun _ h9 => h9) rfl ?_
  refine v_lconst (v := 0) C dX2_drop_4 (by decide) ?_
  refine v_cv (r_S C (c_fillJ l D B K _ ha 8 0 g (by decide) h1) dX2_drop_5 g_ml_X2_15 g_st_yJ7_fill_d0a16 g_in_J7 g_cd_yJ7_fill_d0a16 (rn_le (by decide)) (by decide) rfl hdn_yJ7_fill_d0a16 (Nat.le_of_ble_eq_true rfl) ⟨Nat.le_of_ble_eq_true rfl, Nat.le_of_ble_eq_true rfl⟩) (fun f_5 hp_5 => ?_)
  exact v_vret C hr hlk dX2_drop_8 (Nat.le_refl _) (Nat.le_refl _) hp_5
end
section
/-! what a single range is, what a row of singles is; sizes and places as natural numbers, made long by sat -/
abbrev Sg : Type := Int32 × Int64 × Int64 × Int32
abbrev Ent : Type := Nat × Bool × Nat
def sat (n : Nat) : Int64 := if n < 9223372036854775808 then lN n else -1
theorem sat_lt {n : Nat} (h : n < 9223372036854775808) : sat n = lN n := if_pos h
theorem sat_ge {n : Nat} (h : 9223372036854775808 ≤ n) : sat n = -1 := if_neg (by omega)
theorem sat_toInt (n : Nat) : (sat n).toInt = if n < 9223372036854775808 then (n : Int) else -1 := by
  by_cases h : n < 9223372036854775808
  · rw [sat_lt h, if_pos h, pk_lT h]
  · rw [sat_ge (by omega), if_neg h]; rfl
theorem sat_m1 (n : Nat) : sat n = -1 ↔ 9223372036854775808 ≤ n := by
  constructor
  · intro h
    have h2 := congrArg Int64.toInt h
    rw [sat_toInt] at h2
    by_cases h3 : n < 9223372036854775808
    · rw [if_pos h3] at h2
      have e : (-1 : Int64).toInt = -1 := rfl
      omega
    · omega
  · exact sat_ge
theorem sat_0 (n : Nat) : sat n = 0 ↔ n = 0 := by
  constructor
  · intro h
    have h2 := congrArg Int64.toInt h
    rw [sat_toInt] at h2
    have e : (0 : Int64).toInt = 0 := rfl
    by_cases h3 : n < 9223372036854775808
    · rw [if_pos h3] at h2; omega
    · rw [if_neg h3] at h2; omega
  · intro h; subst h; rfl
theorem sat_n2 (n : Nat) : ¬ sat n = -2 := by
  intro h
  have h2 := congrArg Int64.toInt h
  rw [sat_toInt] at h2
  have e : (-2 : Int64).toInt = -2 := rfl
  by_cases h3 : n < 9223372036854775808
  · rw [if_pos h3] at h2; omega
  · rw [if_neg h3] at h2; omega
theorem tm_sat (a b : Nat) : tmC (sat a) (sat b) = sat (a * b) := by
  unfold tmC
  by_cases ha : a = 0
  · subst ha; rw [if_pos ((sat_0 0).mpr rfl), Nat.zero_mul]; rfl
  · rw [if_neg (fun h => ha ((sat_0 a).mp h))]
    by_cases hb : b = 0
    · subst hb; rw [if_pos ((sat_0 0).mpr rfl), Nat.mul_zero]; rfl
    · rw [if_neg (fun h => hb ((sat_0 b).mp h))]
      have ha1 : a ≤ a * b := Nat.le_mul_of_pos_right a (by omega)
      have hb1 : b ≤ a * b := Nat.le_mul_of_pos_left b (by omega)
      by_cases h1 : a < 9223372036854775808
      · rw [if_neg (fun h => absurd ((sat_m1 a).mp h) (by omega))]
        by_cases h2 : b < 9223372036854775808
        · rw [if_neg (fun h => absurd ((sat_m1 b).mp h) (by omega))]
          rw [sat_lt h1, sat_lt h2]
          have e : (9223372036854775807 : Int64) = lN 9223372036854775807 := rfl
          rw [e, pk_lDiv (by omega) (by omega) h2]
          have hd : 9223372036854775807 / b < 9223372036854775808 := Nat.lt_of_le_of_lt (Nat.div_le_self _ _) (by omega)
          by_cases h3 : a ≤ 9223372036854775807 / b
          · rw [if_pos ((pk_lLE h1 hd).mpr h3), lN_mul]
            have h4 : a * b ≤ 9223372036854775807 := (Nat.le_div_iff_mul_le (by omega)).mp h3
            rw [sat_lt (by omega)]
          · rw [if_neg (fun h => h3 ((pk_lLE h1 hd).mp h))]
            have h4 : ¬ a * b ≤ 9223372036854775807 := fun h => h3 ((Nat.le_div_iff_mul_le (by omega)).mpr h)
            rw [sat_ge (by omega)]
        · rw [if_pos (sat_ge (by omega)), sat_ge (by omega)]
      · rw [if_pos (sat_ge (by omega)), sat_ge (by omega)]
theorem tmM_eq (a b : Int64) : tmM a b = tmC a b := rfl
theorem pl_sat (a b : Nat) : plC (sat a) (sat b) = sat (a + b) := by
  unfold plC
  by_cases h1 : a < 9223372036854775808
  · rw [if_neg (fun h => absurd ((sat_m1 a).mp h) (by omega))]
    by_cases h2 : b < 9223372036854775808
    · rw [if_neg (fun h => absurd ((sat_m1 b).mp h) (by omega))]
      rw [sat_lt h1, sat_lt h2]
      have e : (9223372036854775807 : Int64) = lN 9223372036854775807 := rfl
      rw [e, lN_sub (by omega), lN_add]
      by_cases h3 : a ≤ 9223372036854775807 - b
      · rw [if_pos ((pk_lLE h1 (by omega)).mpr h3), sat_lt (by omega)]
      · rw [if_neg (fun h => h3 ((pk_lLE h1 (by omega)).mp h)), sat_ge (by omega)]
    · rw [if_pos (sat_ge (by omega)), sat_ge (by omega)]
  · rw [if_pos (sat_ge (by omega)), sat_ge (by omega)]
def cntS (q : Sg) : Nat :=
  if q.1 = 2 then (if q.2.1.toInt ≤ q.2.2.1.toInt then (q.2.2.1.toInt - q.2.1.toInt + 1).toNat else (q.2.2.2.toInt - q.2.1.toInt + q.2.2.1.toInt + 1).toNat)
  else if 0 < q.2.2.2.toInt then (if q.2.2.1.toInt < q.2.1.toInt then 0 else ((q.2.2.1.toInt - q.2.1.toInt) / q.2.2.2.toInt).toNat + 1)
  else (if q.2.1.toInt < q.2.2.1.toInt then 0 else ((q.2.1.toInt - q.2.2.1.toInt) / (-q.2.2.2.toInt)).toNat + 1)
def posS (q : Sg) (v : Int64) : Option Nat :=
  if q.1 = 2 then (if 0 ≤ v.toInt ∧ v.toInt < q.2.2.2.toInt ∧ ((q.2.1.toInt ≤ q.2.2.1.toInt → q.2.1.toInt ≤ v.toInt ∧ v.toInt ≤ q.2.2.1.toInt) ∧ (¬ q.2.1.toInt ≤ q.2.2.1.toInt → q.2.1.toInt ≤ v.toInt ∨ v.toInt ≤ q.2.2.1.toInt)) then some (if q.2.1.toInt ≤ v.toInt then (v.toInt - q.2.1.toInt).toNat else (v.toInt + q.2.2.2.toInt - q.2.1.toInt).toNat) else none)
  else if 0 < q.2.2.2.toInt then (if q.2.1.toInt ≤ v.toInt ∧ v.toInt ≤ q.2.2.1.toInt ∧ (v.toInt - q.2.1.toInt) % q.2.2.2.toInt = 0 then some ((v.toInt - q.2.1.toInt) / q.2.2.2.toInt).toNat else none)
  else (if q.2.2.1.toInt ≤ v.toInt ∧ v.toInt ≤ q.2.1.toInt ∧ (q.2.1.toInt - v.toInt) % (-q.2.2.2.toInt) = 0 then some ((q.2.1.toInt - v.toInt) / (-q.2.2.2.toInt)).toNat else none)
def valS (q : Sg) (k : Nat) : Int64 :=
  if q.1 = 2 then Int64.ofInt ((q.2.1.toInt + k) % q.2.2.2.toInt) else Int64.ofInt (q.2.1.toInt + k * q.2.2.2.toInt)
def okS (q : Sg) : Prop :=
  (q.1 = 2 → 1 ≤ q.2.2.2.toInt ∧ q.2.2.2.toInt ≤ 20 ∧ 0 ≤ q.2.1.toInt ∧ q.2.1.toInt < q.2.2.2.toInt ∧ 0 ≤ q.2.2.1.toInt ∧ q.2.2.1.toInt < q.2.2.2.toInt) ∧ (¬ q.1 = 2 → q.2.2.2.toInt ≠ 0 ∧ -1000000 ≤ q.2.2.2.toInt ∧ q.2.2.2.toInt ≤ 1000000)
theorem pos_lt {q : Sg} {v : Int64} {k : Nat} (hq : okS q) (h : posS q v = some k) : k < cntS q := by
  unfold posS at h
  unfold cntS
  by_cases h2 : q.1 = 2
  · rw [if_pos h2] at h ⊢
    obtain ⟨b1, b2, b3, b4, b5, b6⟩ := hq.1 h2
    split at h
    · rename_i h3
      obtain ⟨c1, c2, c3, c4⟩ := h3
      have h := Option.some.inj h
      split
      · rename_i h4
        have c5 := c3 h4
        rw [if_pos c5.1] at h
        omega
      · rename_i h4
        have c5 := c4 h4
        split at h <;> omega
    · cases h
  · rw [if_neg h2] at h ⊢
    obtain ⟨b1, b2, b3⟩ := hq.2 h2
    by_cases hs : 0 < q.2.2.2.toInt
    · rw [if_pos hs] at h ⊢
      split at h
      · rename_i h3
        have h := Option.some.inj h
        rw [if_neg (by omega)]
        have h5 : (v.toInt - q.2.1.toInt) / q.2.2.2.toInt ≤ (q.2.2.1.toInt - q.2.1.toInt) / q.2.2.2.toInt := Int.ediv_le_ediv hs (by omega)
        omega
      · cases h
    · rw [if_neg hs] at h ⊢
      split at h
      · rename_i h3
        have h := Option.some.inj h
        rw [if_neg (by omega)]
        have h5 : (q.2.1.toInt - v.toInt) / (-q.2.2.2.toInt) ≤ (q.2.1.toInt - q.2.2.1.toInt) / (-q.2.2.2.toInt) := Int.ediv_le_ediv (by omega) (by omega)
        omega
      · cases h
/-! rows of singles -/
def flipE (e : Ent) : Ent := (e.1, !e.2.1, e.2.2 + 1)
def deepE (e : Ent) : Ent := (e.1, e.2.1, e.2.2 + 1)
def digE (sg : Nat → Sg) (e : Ent) (k : Nat) : Nat := if e.2.1 then cntS (sg e.1) - 1 - k else k
def missE (sg : Nat → Sg) (h : Nat → Int64) : List Ent → Nat → Option (Nat × Ent)
  | [], _ => none
  | e :: t, j => if (posS (sg e.1) (h j)).isSome then missE sg h t (j + 1) else some (j, e)
def idxE (sg : Nat → Sg) (h : Nat → Int64) : List Ent → Nat → Nat → Nat
  | [], _, acc => acc
  | e :: t, j, acc => idxE sg h t (j + 1) (acc * cntS (sg e.1) + digE sg e ((posS (sg e.1) (h j)).getD 0))
def prodE (sg : Nat → Sg) : List Ent → Nat
  | [] => 1
  | e :: t => cntS (sg e.1) * prodE sg t
theorem prod_app (sg : Nat → Sg) (l1 l2 : List Ent) : prodE sg (l1 ++ l2) = prodE sg l1 * prodE sg l2 := by
  induction l1 with
  | nil => simp [prodE]
  | cons e t ih => simp [prodE, ih, Nat.mul_assoc]
theorem prod_map (sg : Nat → Sg) (l : List Ent) {g : Ent → Ent} (hg : ∀ e, (g e).1 = e.1) : prodE sg (l.map g) = prodE sg l := by
  induction l with
  | nil => rfl
  | cons e t ih => simp [prodE, ih, hg]
theorem idx_acc (sg : Nat → Sg) (h : Nat → Int64) (l : List Ent) : ∀ j acc, idxE sg h l j acc = acc * prodE sg l + idxE sg h l j 0 := by
  induction l with
  | nil => intro j acc; simp [idxE, prodE]
  | cons e t ih =>
    intro j acc
    unfold idxE prodE
    rw [ih, ih (j + 1) (0 * _ + _)]
    rw [Nat.zero_mul, Nat.zero_add, Nat.add_mul, Nat.mul_assoc, Nat.add_assoc]
theorem idx_app (sg : Nat → Sg) (h : Nat → Int64) (l1 l2 : List Ent) : ∀ j acc, idxE sg h (l1 ++ l2) j acc = idxE sg h l2 (j + l1.length) (idxE sg h l1 j acc) := by
  induction l1 with
  | nil => intro j acc; simp [idxE]
  | cons e t ih =>
    intro j acc
    show idxE sg h (t ++ l2) (j + 1) _ = _
    rw [ih]
    simp [idxE, Nat.add_assoc, Nat.add_comm 1]
theorem miss_app (sg : Nat → Sg) (h : Nat → Int64) (l1 l2 : List Ent) : ∀ j, missE sg h (l1 ++ l2) j = match missE sg h l1 j with | some x => some x | none => missE sg h l2 (j + l1.length) := by
  induction l1 with
  | nil => intro j; simp [missE]
  | cons e t ih =>
    intro j
    by_cases hp : (posS (sg e.1) (h j)).isSome
    · simp only [List.cons_append, missE, if_pos hp, ih, List.length_cons]
      rw [show j + 1 + t.length = j + (t.length + 1) by omega]
    · simp only [List.cons_append, missE, if_neg hp]
theorem miss_map (sg : Nat → Sg) (h : Nat → Int64) (l : List Ent) {g : Ent → Ent} (hg : ∀ e, (g e).1 = e.1) : ∀ j, missE sg h (l.map g) j = (missE sg h l j).map (fun q => (q.1, g q.2)) := by
  induction l with
  | nil => intro j; rfl
  | cons e t ih =>
    intro j
    rw [List.map_cons]
    unfold missE
    rw [hg]
    by_cases hp : (posS (sg e.1) (h j)).isSome
    · rw [if_pos hp, if_pos hp, ih]
    · rw [if_neg hp, if_neg hp]; rfl
theorem idx_deep (sg : Nat → Sg) (h : Nat → Int64) (l : List Ent) : ∀ j acc, idxE sg h (l.map deepE) j acc = idxE sg h l j acc := by
  induction l with
  | nil => intro j acc; rfl
  | cons e t ih =>
    intro j acc
    rw [List.map_cons]
    unfold idxE
    rw [ih]
    rfl
theorem dig_lt {sg : Nat → Sg} {e : Ent} {k : Nat} (h : k < cntS (sg e.1)) : digE sg e k < cntS (sg e.1) := by
  unfold digE
  split <;> omega
theorem idx_lt {sg : Nat → Sg} {h : Nat → Int64} (hok : ∀ o, okS (sg o)) {l : List Ent} : ∀ {j : Nat}, missE sg h l j = none → idxE sg h l j 0 < prodE sg l := by
  induction l with
  | nil => intro j _; simp [idxE, prodE]
  | cons e t ih =>
    intro j hm
    unfold missE at hm
    by_cases hp : (posS (sg e.1) (h j)).isSome
    · rw [if_pos hp] at hm
      have h1 := ih hm
      unfold idxE prodE
      rw [idx_acc]
      obtain ⟨k, hk⟩ := Option.isSome_iff_exists.mp hp
      have h2 : digE sg e ((posS (sg e.1) (h j)).getD 0) < cntS (sg e.1) := by
        rw [hk]
        exact dig_lt (pos_lt (hok _) hk)
      rw [Nat.zero_mul, Nat.zero_add]
      have h3 : (digE sg e ((posS (sg e.1) (h j)).getD 0) + 1) * prodE sg t ≤ cntS (sg e.1) * prodE sg t := Nat.mul_le_mul_right _ h2
      rw [Nat.add_mul] at h3
      omega
    · rw [if_neg hp] at hm; cases hm
theorem idx_flip {sg : Nat → Sg} {h : Nat → Int64} (hok : ∀ o, okS (sg o)) {l : List Ent} : ∀ {j : Nat}, missE sg h l j = none → idxE sg h (l.map flipE) j 0 + idxE sg h l j 0 + 1 = prodE sg l := by
  induction l with
  | nil => intro j _; simp [idxE, prodE]
  | cons e t ih =>
    intro j hm
    unfold missE at hm
    by_cases hp : (posS (sg e.1) (h j)).isSome
    · rw [if_pos hp] at hm
      have h1 := ih hm
      rw [List.map_cons]
      unfold idxE prodE
      rw [idx_acc sg h t, idx_acc sg h (t.map flipE), prod_map sg t (g := flipE) (fun _ => rfl)]
      obtain ⟨k, hk⟩ := Option.isSome_iff_exists.mp hp
      have hlt := pos_lt (hok _) hk
      have e1 : (flipE e).1 = e.1 := rfl
      rw [e1, hk]
      have h2 : digE sg (flipE e) k + digE sg e k + 1 = cntS (sg e.1) := by
        unfold digE flipE
        cases e.2.1 <;> simp <;> omega
      show (0 * cntS (sg e.1) + digE sg (flipE e) k) * prodE sg t + idxE sg h (t.map flipE) (j + 1) 0 + ((0 * cntS (sg e.1) + digE sg e k) * prodE sg t + idxE sg h t (j + 1) 0) + 1 = _
      rw [← h2, Nat.zero_mul, Nat.zero_add, Nat.zero_add, Nat.add_mul, Nat.add_mul, Nat.one_mul]
      omega
    · rw [if_neg hp] at hm; cases hm
theorem prod_pos {sg : Nat → Sg} {h : Nat → Int64} (hok : ∀ o, okS (sg o)) {l : List Ent} {j : Nat} (hm : missE sg h l j = none) : 0 < prodE sg l := Nat.lt_of_le_of_lt (Nat.zero_le _) (idx_lt hok hm)
end
section
def uN (x : Int64) : Nat := x.toUInt64.toNat
theorem uN_lt (x : Int64) : uN x < 18446744073709551616 := x.toUInt64.toNat_lt
theorem uN_inj {x y : Int64} (h : uN x = uN y) : x = y := congrArg UInt64.toInt64 (UInt64.toNat_inj.mp h)
theorem uN_add (x y : Int64) : uN (x + y) = (uN x + uN y) % 18446744073709551616 := by
  show (x.toUInt64 + y.toUInt64).toNat = _
  exact UInt64.toNat_add _ _
theorem uN_mul (x y : Int64) : uN (x * y) = (uN x * uN y) % 18446744073709551616 := by
  show (x.toUInt64 * y.toUInt64).toNat = _
  exact UInt64.toNat_mul _ _
theorem uN_shl (x : Int64) : uN (x <<< ((1 : Int32).toInt64 &&& 63)) = (2 * uN x) % 18446744073709551616 := by
  have h : (((1 : Int32).toInt64 &&& 63).toBitVec.smod 64).toNat = 1 := by decide
  show (x.toBitVec <<< (((1 : Int32).toInt64 &&& 63).toBitVec.smod 64).toNat).toNat = _
  rw [h, BitVec.toNat_shiftLeft, Nat.shiftLeft_eq, Nat.mul_comm]
  rfl
theorem uN_shr (x : Int64) (s : UInt64) : uN (x.toUInt64 >>> s).toInt64 = uN x / 2 ^ (s.toNat % 64) := by
  show (x.toUInt64 >>> s).toNat = _
  rw [UInt64.toNat_shiftRight, Nat.shiftRight_eq_div_pow]
  rfl
theorem uN_int (x : Int64) : x.toInt = if 2 * uN x < 18446744073709551616 then (uN x : Int) else (uN x : Int) - 18446744073709551616 := BitVec.toInt_eq_toNat_cond _
theorem nat_emod {u w : Nat} {U W : Int} (hU : (u : Int) = U) (hW : (w : Int) = W) : u % w = (U % W).toNat := by
  subst hU; subst hW
  rw [← Int.natCast_emod]
  exact (Int.toNat_natCast _).symm
theorem nat_ediv {u w : Nat} {U W : Int} (hU : (u : Int) = U) (hW : (w : Int) = W) : u / w = (U / W).toNat := by
  subst hU; subst hW
  rw [← Int.natCast_ediv]
  exact (Int.toNat_natCast _).symm
theorem uN_sub (x y : Int64) : uN (x - y) = (uN x + 18446744073709551616 - uN y) % 18446744073709551616 := by
  show (x.toUInt64 - y.toUInt64).toNat = _
  rw [UInt64.toNat_sub]
  have h1 := uN_lt y
  show (2 ^ 64 - uN y + uN x) % 2 ^ 64 = _
  rw [show (2 ^ 64 : Nat) = 18446744073709551616 from rfl]
  rw [show 18446744073709551616 - uN y + uN x = uN x + 18446744073709551616 - uN y by omega]
theorem uN_lN {n : Nat} (h : n < 18446744073709551616) : uN (lN n) = n := by
  show (UInt64.ofNat n).toNat = n
  rw [UInt64.toNat_ofNat']
  exact Nat.mod_eq_of_lt h
theorem lN_uN (x : Int64) : lN (uN x) = x := uN_inj (uN_lN (uN_lt x))
theorem uN_dist {a b : Int64} (h : a.toInt ≤ b.toInt) : (uN (b - a) : Int) = b.toInt - a.toInt := by
  have h1 := uN_lt a
  have h2 := uN_lt b
  have e1 := uN_int a
  have e2 := uN_int b
  rw [uN_sub]
  split at e1 <;> split at e2 <;> omega
theorem l_of_pos {s : Int64} (h : 0 ≤ s.toInt) : s = lN s.toInt.toNat ∧ s.toInt.toNat < 9223372036854775808 := by
  have h1 := uN_lt s
  have e1 := uN_int s
  split at e1
  · have e2 : s.toInt.toNat = uN s := by omega
    rw [e2]
    exact ⟨(lN_uN s).symm, by omega⟩
  · omega
theorem quC_eq {d s : Int64} (h1 : 1 ≤ s.toInt) (h2 : s.toInt ≤ 1000000) : quC d s = lN (uN d / s.toInt.toNat) := by
  obtain ⟨es, _⟩ := l_of_pos (s := s) (by omega)
  generalize hS : s.toInt.toNat = S at es ⊢
  have hS1 : 1 ≤ S := by omega
  have hS2 : S ≤ 1000000 := by omega
  subst es
  have hU := uN_lt d
  unfold quC
  rw [if_pos (show (1 : Int64) ≤ lN S from (pk_lLE (a := 1) (by omega) (by omega)).mpr hS1)]
  have e1 : (d.toUInt64 >>> ((1 : Int32).toInt64.toUInt64 &&& Int64.toUInt64 63)).toInt64 = lN (uN d / 2) := by
    apply uN_inj
    rw [uN_shr, uN_lN (by omega)]
    have h9 : ((1 : Int32).toInt64.toUInt64 &&& Int64.toUInt64 63).toNat % 64 = 1 := by decide
    rw [h9]
  rw [e1, pk_lDiv (show uN d / 2 < 2 ^ 63 by omega) (by omega) (by omega)]
  generalize hq : uN d / 2 / S = q
  have hm := Nat.div_add_mod (uN d / 2) S
  rw [hq] at hm
  have hr := Nat.mod_lt (uN d / 2) (show 0 < S by omega)
  generalize uN d / 2 % S = r at hm hr
  have h2m := Nat.div_add_mod (uN d) 2
  have hq2 : q ≤ uN d / 2 := by rw [← hq]; exact Nat.div_le_self _ _
  have e2 : (lN q) <<< ((1 : Int32).toInt64 &&& 63) = lN (2 * q) := by
    apply uN_inj
    rw [uN_shl, uN_lN (by omega), uN_lN (by omega), Nat.mod_eq_of_lt (by omega)]
  rw [e2, lN_mul]
  have hX : 2 * q * S = 2 * (S * q) := by rw [Nat.mul_assoc, Nat.mul_comm q S]
  have hle : 2 * q * S ≤ uN d := by omega
  have e3 : d - lN (2 * q * S) = lN (uN d - 2 * q * S) := by
    conv => lhs; rw [← lN_uN d]
    exact lN_sub hle
  rw [e3]
  have hlt : uN d - 2 * q * S < 2 ^ 63 := by omega
  have hU2 : uN d = (uN d - 2 * q * S) + S * (2 * q) := by
    rw [Nat.mul_comm S]; omega
  have hdiv : uN d / S = (uN d - 2 * q * S) / S + 2 * q := by
    conv => lhs; rw [hU2]
    rw [Nat.add_mul_div_left _ _ (by omega)]
  by_cases hc : uN d - 2 * q * S < S
  · rw [if_pos ((pk_lLT hlt (by omega)).mpr hc), hdiv, Nat.div_eq_of_lt hc, Nat.zero_add]
  · rw [if_neg (fun h => hc ((pk_lLT hlt (by omega)).mp h)), hdiv]
    have h1d : (uN d - 2 * q * S) / S = 1 := by
      apply Nat.div_eq_of_lt_le <;> omega
    rw [h1d, lN_1, Nat.add_comm]
/-- the end of Row.placeOf, of a distance and a stride -/
theorem rp_end {d s : Int64} (h1 : 1 ≤ s.toInt) (h2 : s.toInt ≤ 1000000) : (if (quC d s * s) = d then (if (0 : Int64) ≤ quC d s then quC d s else (-1 : Int64)) else (-2 : Int64)) = if uN d % s.toInt.toNat = 0 then sat (uN d / s.toInt.toNat) else -2 := by
  rw [quC_eq h1 h2]
  obtain ⟨es, hs9⟩ := l_of_pos (s := s) (by omega)
  generalize hS : s.toInt.toNat = S at es hs9 ⊢
  have hU := uN_lt d
  have hdm := Nat.div_add_mod (uN d) S
  have hr := Nat.mod_lt (uN d) (show 0 < S by omega)
  have hle : uN d / S ≤ uN d := Nat.div_le_self _ _
  have e1 : lN (uN d / S) * s = d ↔ uN d % S = 0 := by
    rw [es, lN_mul, Nat.mul_comm]
    constructor
    · intro h
      have h3 := congrArg uN h
      rw [uN_lN (by omega)] at h3
      omega
    · intro h
      rw [show S * (uN d / S) = uN d by omega]
      exact lN_uN d
  by_cases hc : uN d % S = 0
  · rw [if_pos (e1.mpr hc), if_pos hc]
    by_cases hb : uN d / S < 9223372036854775808
    · rw [sat_lt hb, if_pos]
      exact (pk_lLE (a := 0) (by omega) hb).mpr (Nat.zero_le _)
    · rw [sat_ge (by omega), if_neg]
      intro h
      rw [Int64.le_iff_toInt_le] at h
      have e4 := uN_int (lN (uN d / S))
      rw [uN_lN (by omega)] at e4
      rw [if_neg (by omega)] at e4
      have e5 : (0 : Int64).toInt = 0 := rfl
      omega
  · rw [if_neg (fun h => hc (e1.mp h)), if_neg hc]
theorem i2l_toInt (x : Int32) : x.toInt64.toInt = x.toInt := by simp
theorem ineg_toInt {x : Int32} (h1 : -1000000 ≤ x.toInt) (h2 : x.toInt ≤ 1000000) : (-x).toInt = -x.toInt := by
  rw [Int32.toInt_neg]
  exact Int.bmod_eq_of_le (by omega) (by omega)
def pmS (o : Option Nat) : Int64 := match o with
  | none => -2
  | some k => sat k
def rowOK (q : Sg) (fi la : Int64) (sp : Int32) : Prop := ¬ q.1 = 2 ∧ fi = q.2.1 ∧ sp = q.2.2.2 ∧ (0 < cntS q → la.toInt = q.2.1.toInt + ((cntS q : Int) - 1) * q.2.2.2.toInt)
theorem rp_eq {q : Sg} {fi la : Int64} {sp : Int32} (hq : okS q) (h : rowOK q fi la sp) (v : Int64) : rpC (sat (cntS q)) fi la sp v = pmS (posS q v) := by
  obtain ⟨h2, rfl, rfl, hla⟩ := h
  obtain ⟨b1, b2, b3⟩ := hq.2 h2
  obtain ⟨kd, a, b, sp⟩ := q
  simp only at h2 b1 b2 b3 hla ⊢
  by_cases hc0 : cntS (kd, a, b, sp) = 0
  · have hp : posS (kd, a, b, sp) v = none := by
      cases hp : posS (kd, a, b, sp) v with
      | none => rfl
      | some k => exact absurd (pos_lt hq hp) (by omega)
    rw [hp, hc0]
    have e0 : sat 0 = 0 := rfl
    unfold rpC pmS
    rw [e0]
    simp
  · have hc1 : 0 < cntS (kd, a, b, sp) := by omega
    have hla := hla hc1
    have hz : ¬ sat (cntS (kd, a, b, sp)) = 0 := fun h => hc0 ((sat_0 _).mp h)
    unfold rpC
    simp only [if_neg hz, ite_self]
    by_cases hs : 0 < sp.toInt
    · rw [if_neg (fun h => by rw [Int32.le_iff_toInt_le] at h; have e : (0 : Int32).toInt = 0 := rfl; omega)]
      have hcnt : (cntS (kd, a, b, sp) : Int) = (b.toInt - a.toInt) / sp.toInt + 1 ∧ a.toInt ≤ b.toInt := by
        unfold cntS at hc0 ⊢
        simp only [if_neg h2, if_pos hs] at hc0 ⊢
        split at hc0
        · omega
        · rename_i h5
          rw [if_neg h5]
          have := Int.ediv_nonneg (show 0 ≤ b.toInt - a.toInt by omega) (show 0 ≤ sp.toInt by omega)
          omega
      obtain ⟨hcnt, hab⟩ := hcnt
      have hdm := Int.mul_ediv_add_emod (b.toInt - a.toInt) sp.toInt
      have hmm := Int.emod_lt_of_pos (b.toInt - a.toInt) hs
      have hmn := Int.emod_nonneg (b.toInt - a.toInt) b1
      have hlb : la.toInt = a.toInt + sp.toInt * ((b.toInt - a.toInt) / sp.toInt) := by
        rw [hla, hcnt, Int.mul_comm]
        congr 2
        omega
      unfold posS
      simp only [if_neg h2, if_pos hs]
      by_cases hv1 : v < a
      · rw [if_pos hv1]
        rw [Int64.lt_iff_toInt_lt] at hv1
        rw [if_neg (fun h => by omega)]; rfl
      · rw [if_neg hv1]
        rw [Int64.lt_iff_toInt_lt] at hv1
        have hd := uN_dist (show a.toInt ≤ v.toInt by omega)
        have hs64 : sp.toInt64.toInt = sp.toInt := i2l_toInt sp
        by_cases hv2 : v ≤ la
        · rw [if_pos hv2]
          rw [Int64.le_iff_toInt_le] at hv2
          rw [rp_end (by omega) (by omega), hs64]
          have hmod : (uN (v - a) % sp.toInt.toNat : Nat) = ((v.toInt - a.toInt) % sp.toInt).toNat := nat_emod hd (by omega)
          have hdiv : (uN (v - a) / sp.toInt.toNat : Nat) = ((v.toInt - a.toInt) / sp.toInt).toNat := nat_ediv hd (by omega)
          have hmn2 := Int.emod_nonneg (v.toInt - a.toInt) b1
          by_cases hm : (v.toInt - a.toInt) % sp.toInt = 0
          · rw [if_pos (by rw [hmod, hm]; rfl), if_pos ⟨by omega, by omega, hm⟩, hdiv]; rfl
          · rw [if_neg (by rw [hmod]; omega), if_neg (fun h => hm h.2.2)]; rfl
        · rw [if_neg hv2]
          rw [Int64.le_iff_toInt_le] at hv2
          rw [if_neg]
          · rfl
          · intro h
            have h5 := Int.mul_ediv_add_emod (v.toInt - a.toInt) sp.toInt
            rw [h.2.2, Int.add_zero] at h5
            have h6 : (b.toInt - a.toInt) / sp.toInt < (v.toInt - a.toInt) / sp.toInt := by
              apply Int.lt_of_mul_lt_mul_left (a := sp.toInt) _ (by omega)
              omega
            have h7 : sp.toInt * ((b.toInt - a.toInt) / sp.toInt + 1) ≤ sp.toInt * ((v.toInt - a.toInt) / sp.toInt) := Int.mul_le_mul_of_nonneg_left (by omega) (by omega)
            rw [Int.mul_add, Int.mul_one] at h7
            omega
    · rw [if_pos (show sp ≤ 0 by rw [Int32.le_iff_toInt_le]; have e : (0 : Int32).toInt = 0 := rfl; omega)]
      have hs' : 0 < -sp.toInt := by omega
      have hcnt : (cntS (kd, a, b, sp) : Int) = (a.toInt - b.toInt) / (-sp.toInt) + 1 ∧ b.toInt ≤ a.toInt := by
        unfold cntS at hc0 ⊢
        simp only [if_neg h2, if_neg hs] at hc0 ⊢
        split at hc0
        · omega
        · rename_i h5
          rw [if_neg h5]
          have := Int.ediv_nonneg (show 0 ≤ a.toInt - b.toInt by omega) (show 0 ≤ -sp.toInt by omega)
          omega
      obtain ⟨hcnt, hab⟩ := hcnt
      have hdm := Int.mul_ediv_add_emod (a.toInt - b.toInt) (-sp.toInt)
      have hmm := Int.emod_lt_of_pos (a.toInt - b.toInt) hs'
      have hmn := Int.emod_nonneg (a.toInt - b.toInt) (show -sp.toInt ≠ 0 by omega)
      have hlb : la.toInt = a.toInt - (-sp.toInt) * ((a.toInt - b.toInt) / (-sp.toInt)) := by
        rw [hla, hcnt, Int.neg_mul, Int.sub_neg, Int.mul_comm]
        congr 2
        omega
      unfold posS
      simp only [if_neg h2, if_neg hs]
      by_cases hv1 : a < v
      · rw [if_pos hv1]
        rw [Int64.lt_iff_toInt_lt] at hv1
        rw [if_neg (fun h => by omega)]; rfl
      · rw [if_neg hv1]
        rw [Int64.lt_iff_toInt_lt] at hv1
        have hd := uN_dist (show v.toInt ≤ a.toInt by omega)
        have hs64 : (-sp).toInt64.toInt = -sp.toInt := by rw [i2l_toInt, ineg_toInt b2 b3]
        by_cases hv2 : la ≤ v
        · rw [if_pos hv2]
          rw [Int64.le_iff_toInt_le] at hv2
          rw [rp_end (by omega) (by omega), hs64]
          have hmod : (uN (a - v) % (-sp.toInt).toNat : Nat) = ((a.toInt - v.toInt) % (-sp.toInt)).toNat := nat_emod hd (by omega)
          have hdiv : (uN (a - v) / (-sp.toInt).toNat : Nat) = ((a.toInt - v.toInt) / (-sp.toInt)).toNat := nat_ediv hd (by omega)
          have hmn2 := Int.emod_nonneg (a.toInt - v.toInt) (show -sp.toInt ≠ 0 by omega)
          by_cases hm : (a.toInt - v.toInt) % (-sp.toInt) = 0
          · rw [if_pos (by rw [hmod, hm]; rfl), if_pos ⟨by omega, by omega, hm⟩, hdiv]; rfl
          · rw [if_neg (by rw [hmod]; omega), if_neg (fun h => hm h.2.2)]; rfl
        · rw [if_neg hv2]
          rw [Int64.le_iff_toInt_le] at hv2
          rw [if_neg]
          · rfl
          · intro h
            have h5 := Int.mul_ediv_add_emod (a.toInt - v.toInt) (-sp.toInt)
            rw [h.2.2, Int.add_zero] at h5
            have h6 : (a.toInt - b.toInt) / (-sp.toInt) < (a.toInt - v.toInt) / (-sp.toInt) := by
              apply Int.lt_of_mul_lt_mul_left (a := -sp.toInt) _ (by omega)
              omega
            have h7 : (-sp.toInt) * ((a.toInt - b.toInt) / (-sp.toInt) + 1) ≤ (-sp.toInt) * ((a.toInt - v.toInt) / (-sp.toInt)) := Int.mul_le_mul_of_nonneg_left (by omega) (by omega)
            rw [Int.mul_add, Int.mul_one] at h7
            omega
def namesOK (q : Sg) (ar fi : Int32) : Prop := q.1 = 2 ∧ ar = q.2.2.2 ∧ fi.toInt = q.2.1.toInt
theorem l_sub_toInt {a b : Int64} (h1 : -1000 ≤ a.toInt - b.toInt) (h2 : a.toInt - b.toInt ≤ 1000) : (a - b).toInt = a.toInt - b.toInt := by
  rw [Int64.toInt_sub]
  exact Int.bmod_eq_of_le (by omega) (by omega)
theorem l_add_toInt {a b : Int64} (h1 : -1000 ≤ a.toInt + b.toInt) (h2 : a.toInt + b.toInt ≤ 1000) : (a + b).toInt = a.toInt + b.toInt := by
  rw [Int64.toInt_add]
  exact Int.bmod_eq_of_le (by omega) (by omega)
theorem l_eq_sat {x : Int64} {n : Nat} (h : x.toInt = (n : Int)) (hn : n < 9223372036854775808) : x = sat n := by
  rw [sat_lt hn]
  apply Int64.toInt_inj.mp
  rw [h, pk_lT hn]
theorem np_eq {q : Sg} {ar fi : Int32} (hq : okS q) (h : namesOK q ar fi) (v : Int64) : npC (sat (cntS q)) ar fi v = pmS (posS q v) := by
  obtain ⟨h2, rfl, hfi⟩ := h
  obtain ⟨b1, b2, b3, b4, b5, b6⟩ := hq.1 h2
  obtain ⟨kd, a, b, n⟩ := q
  simp only at h2 b1 b2 b3 b4 b5 b6 hfi ⊢
  have hc : (cntS (kd, a, b, n) : Int) = if a.toInt ≤ b.toInt then b.toInt - a.toInt + 1 else n.toInt - a.toInt + b.toInt + 1 := by
    unfold cntS
    simp only [if_pos h2]
    split <;> omega
  have hclt : cntS (kd, a, b, n) < 9223372036854775808 := by split at hc <;> omega
  have hcz : (sat (cntS (kd, a, b, n))).toInt = (cntS (kd, a, b, n) : Int) := by rw [sat_toInt, if_pos hclt]
  have e0 : (0 : Int64).toInt = 0 := rfl
  have en : n.toInt64.toInt = n.toInt := i2l_toInt n
  have ef : fi.toInt64.toInt = a.toInt := by rw [i2l_toInt, hfi]
  unfold npC posS
  simp only [if_pos h2]
  by_cases hv1 : v < 0
  · rw [if_pos hv1]
    rw [Int64.lt_iff_toInt_lt] at hv1
    rw [if_neg (fun h => by omega)]; rfl
  · rw [if_neg hv1]
    rw [Int64.lt_iff_toInt_lt] at hv1
    by_cases hv2 : v < n.toInt64
    · rw [if_pos hv2]
      rw [Int64.lt_iff_toInt_lt] at hv2
      by_cases hv3 : v < fi.toInt64
      · rw [if_pos hv3]
        rw [Int64.lt_iff_toInt_lt] at hv3
        have e1 : (v - fi.toInt64).toInt = v.toInt - a.toInt := by rw [l_sub_toInt (by omega) (by omega), ef]
        have e2 : (v - fi.toInt64 + n.toInt64).toInt = v.toInt - a.toInt + n.toInt := by rw [l_add_toInt (by omega) (by omega), e1, en]
        by_cases hz : sat (cntS (kd, a, b, n)) ≤ v - fi.toInt64 + n.toInt64
        · rw [if_pos hz]
          rw [Int64.le_iff_toInt_le, hcz, e2, hc] at hz
          rw [if_neg]
          · rfl
          · intro h
            obtain ⟨_, _, c1, c2⟩ := h
            split at hz
            · rename_i h5
              have := c1 h5
              omega
            · rename_i h5
              have := c2 h5
              omega
        · rw [if_neg hz]
          rw [Int64.le_iff_toInt_le, hcz, e2, hc] at hz
          rw [if_pos, if_neg (by omega)]
          · exact l_eq_sat (by omega) (by omega)
          · refine ⟨by omega, by omega, fun h5 => ?_, fun h5 => ?_⟩
            · rw [if_pos h5] at hz; omega
            · rw [if_neg h5] at hz; omega
      · rw [if_neg hv3]
        rw [Int64.lt_iff_toInt_lt] at hv3
        have e1 : (v - fi.toInt64).toInt = v.toInt - a.toInt := by rw [l_sub_toInt (by omega) (by omega), ef]
        by_cases hz : sat (cntS (kd, a, b, n)) ≤ v - fi.toInt64
        · rw [if_pos hz]
          rw [Int64.le_iff_toInt_le, hcz, e1, hc] at hz
          rw [if_neg]
          · rfl
          · intro h
            obtain ⟨_, _, c1, c2⟩ := h
            split at hz
            · rename_i h5
              have := c1 h5
              omega
            · omega
        · rw [if_neg hz]
          rw [Int64.le_iff_toInt_le, hcz, e1, hc] at hz
          rw [if_pos, if_pos (by omega)]
          · exact l_eq_sat (by omega) (by omega)
          · refine ⟨by omega, by omega, fun h5 => ?_, fun h5 => ?_⟩
            · rw [if_pos h5] at hz; omega
            · omega
    · rw [if_neg hv2]
      rw [Int64.lt_iff_toInt_lt] at hv2
      rw [if_neg (fun h => by omega)]; rfl
theorem i2l_ofInt (x : Int32) : x.toInt64 = Int64.ofInt x.toInt := by
  apply Int64.toInt_inj.mp
  rw [i2l_toInt, Int64.toInt_ofInt, show Int64.size = 18446744073709551616 from rfl]
  have h1 := x.le_toInt
  have h2 := x.toInt_lt
  exact (Int.bmod_eq_of_le (by omega) (by omega)).symm
theorem rv_eq {q : Sg} {fi la : Int64} {sp : Int32} (h : rowOK q fi la sp) (sz : Int64) (k : Nat) : rvC sz fi la sp (lN k) = valS q k := by
  obtain ⟨h2, rfl, rfl, _⟩ := h
  unfold rvC valS
  rw [if_neg h2, Int64.ofInt_add, Int64.ofInt_mul, Int64.ofInt_toInt, i2l_ofInt]
  rfl
theorem nv_eq {q : Sg} {ar fi : Int32} (hq : okS q) (h : namesOK q ar fi) (sz : Int64) {k : Nat} (hk : k < cntS q) : nvC sz ar fi (lN k) = valS q k := by
  obtain ⟨h2, rfl, hfi⟩ := h
  obtain ⟨b1, b2, b3, b4, b5, b6⟩ := hq.1 h2
  obtain ⟨kd, a, b, n⟩ := q
  simp only at h2 b1 b2 b3 b4 b5 b6 hfi hk ⊢
  have hc : (cntS (kd, a, b, n) : Int) = if a.toInt ≤ b.toInt then b.toInt - a.toInt + 1 else n.toInt - a.toInt + b.toInt + 1 := by
    unfold cntS
    simp only [if_pos h2]
    split <;> omega
  have hk2 : (k : Int) < n.toInt := by split at hc <;> omega
  have ek : (lN k).toInt = (k : Int) := pk_lT (by omega)
  have en : n.toInt64.toInt = n.toInt := i2l_toInt n
  have ef : fi.toInt64.toInt = a.toInt := by rw [i2l_toInt, hfi]
  have e1 : (fi.toInt64 + lN k).toInt = a.toInt + k := by rw [l_add_toInt (by omega) (by omega), ef, ek]
  unfold nvC valS
  simp only [if_pos h2]
  apply Int64.toInt_inj.mp
  have hm1 := Int.emod_nonneg (a.toInt + k) (show n.toInt ≠ 0 by omega)
  have hm2 := Int.emod_lt_of_pos (a.toInt + k) (show 0 < n.toInt by omega)
  rw [Int64.toInt_ofInt, show Int64.size = 18446744073709551616 from rfl, Int.bmod_eq_of_le (by omega) (by omega)]
  by_cases hz : n.toInt64 ≤ fi.toInt64 + lN k
  · rw [if_pos hz]
    rw [Int64.le_iff_toInt_le, en, e1] at hz
    rw [l_sub_toInt (by omega) (by omega), e1, en]
    rw [← Int.emod_eq_of_lt (show 0 ≤ a.toInt + k - n.toInt by omega) (show a.toInt + k - n.toInt < n.toInt by omega), Int.sub_emod_right]
  · rw [if_neg hz]
    rw [Int64.le_iff_toInt_le, en, e1] at hz
    rw [e1, Int.emod_eq_of_lt (by omega) (by omega)]
end
section
/-! ranges in the heap: fi holds their cells, which never change -/
def Imm (fi f : St) : Prop := ∀ a x, fi a = some x → f a = some x
theorem Imm.up {fi f : St} {a : Nat} {y : Option va_E} (h : Imm fi f) (ha : fi a = none) : Imm fi (va_up f a y) := fun b x hb => by
  by_cases e : b = a
  · subst e; rw [ha] at hb; cases hb
  · rw [va_up_ne _ _ e]; exact h b x hb
def RS (sg : Nat → Sg) (ra : Nat → Nat) (kd : Nat → Int32) (fi : St) (o : Nat) : Prop :=
  (∃ (fst lst : Int64) (sp : Int32), fi (ra o) = some (.inr (5, [.int (nI o), .int (kd o), .int 1, .long (sat (cntS (sg o))), .long fst, .long lst, .int sp])) ∧ rowOK (sg o) fst lst sp) ∨
  (∃ ar fs : Int32, fi (ra o) = some (.inr (4, [.int (nI o), .int (kd o), .int 1, .long (sat (cntS (sg o))), .int ar, .int fs])) ∧ namesOK (sg o) ar fs)
def RTi (K : Nat → ClassId) (sg : Nat → Sg) (E : Nat → List Ent) (ra : Nat → Nat) (kd : Nat → Int32) (fi : St) (i : Nat) : Prop :=
  (RS sg ra kd fi i ∧ E i = [(i, false, 0)]) ∨
  (∃ j, j < i ∧ fi (ra i) = some (.inr (0, [.int (nI i), .int (kd i), .int (nI (E j).length), .long (sat (prodE sg (E j))), .ref (ra j)])) ∧ prodE sg (E j) < 9223372036854775808 ∧ E i = (E j).map flipE) ∨
  (∃ (js : List Nat) (pa : Nat) (g : Nat → Option Nat), (∀ j ∈ js, j < i) ∧ js.length ≤ 3 ∧ fi (ra i) = some (.inr (1, [.int (nI i), .int (kd i), .int (nI (E i).length), .long (sat (prodE sg (E i))), .ref pa])) ∧ fi pa = some (.inl (K 3, js.length, .inr (.inr (.inr (.inr g))))) ∧ (∀ t j, js[t]? = some j → g t = some (ra j)) ∧ E i = (js.flatMap E).map deepE)
def RT (K : Nat → ClassId) (sg : Nat → Sg) (E : Nat → List Ent) (ra : Nat → Nat) (kd : Nat → Int32) (fi : St) (n : Nat) : Prop :=
  (∀ o, okS (sg o)) ∧ ∀ i, i < n → RTi K sg E ra kd fi i ∧ (E i).length ≤ 8 ∧ 1 ≤ (E i).length ∧ ∀ e ∈ E i, e.1 ≤ i ∧ RS sg ra kd fi e.1
theorem prod_1 (sg : Nat → Sg) (o : Nat) (b : Bool) (d : Nat) : prodE sg [(o, b, d)] = cntS (sg o) := Nat.mul_one _
theorem RT_hdr {K : Nat → ClassId} {sg : Nat → Sg} {E : Nat → List Ent} {ra : Nat → Nat} {kd : Nat → Int32} {fi : St} {i : Nat} (h : RTi K sg E ra kd fi i) : ∃ (ci : Nat) (fs : List Value), (ci = 0 ∨ ci = 1 ∨ ci = 4 ∨ ci = 5) ∧ fi (ra i) = some (.inr (ci, fs)) ∧ fs[0]? = some (.int (nI i)) ∧ fs[1]? = some (.int (kd i)) ∧ fs[2]? = some (.int (nI (E i).length)) ∧ fs[3]? = some (.long (sat (prodE sg (E i)))) := by
  rcases h with ⟨⟨fst, lst, sp, h1, _⟩ | ⟨ar, fs, h1, _⟩, hE⟩ | ⟨j, _, h1, _, hE⟩ | ⟨js, pa, g, _, _, h1, _⟩
  · exact ⟨5, _, by omega, h1, rfl, rfl, by rw [hE]; rfl, by rw [hE, prod_1]; rfl⟩
  · exact ⟨4, _, by omega, h1, rfl, rfl, by rw [hE]; rfl, by rw [hE, prod_1]; rfl⟩
  · exact ⟨0, _, by omega, h1, rfl, rfl, by rw [hE, List.length_map]; rfl, by rw [hE, prod_map sg _ (g := flipE) (fun _ => rfl)]; rfl⟩
  · exact ⟨1, _, by omega, h1, rfl, rfl, rfl, rfl⟩
def plR (sg : Nat → Sg) (h : Nat → Int64) (l : List Ent) (a : Nat) : Int64 := match missE sg h l a with
  | none => sat (idxE sg h l a 0)
  | some _ => -2
def plF (f : St) (mm : Nat) (t d : Int32) (o : Option (Nat × Ent)) : St := match o with
  | none => f
  | some q => va_up f mm (some (.inr (3, [.int (t + 1), .int (nI q.2.1), .int (nI q.1), .int (d + nI q.2.2.2)])))
theorem look_eq {h : Nat → Int64} {a : Nat} (ha : a < 8) : lookC h (nI a) = h a := by
  unfold lookC
  rw [if_neg (nI_pos (by omega)), if_neg (show ¬ (8 : Int32) ≤ nI a from nI_ge (b := 8) ha (by omega)), nI_clamp (by omega)]
def PLk (l : Launch) (D : va_G) (B : Nat) (K : Nat → ClassId) (sg : Nat → Sg) (E : Nat → List Ent) (ra : Nat → Nat) (fi : St) (i : Nat) : Prop :=
  ∀ (f : St) (hh ha mm a : Nat) (h : Nat → Int64) (t x y z d : Int32), Imm fi f → f hh = some (.inr (2, [.ref ha])) → f ha = some (.inl (K 1, 8, .inr (.inl h))) → f mm = some (.inr (3, [.int t, .int x, .int y, .int z])) → a + (E i).length ≤ 8 →
    (((∃ fs, fi (ra i) = some (.inr (5, fs))) ∨ ∃ fs, fi (ra i) = some (.inr (4, fs))) → Kc l D B K yX7_place cX7_place 7 (some .long) (i + 2) 0 0 [.ref (ra i), .ref hh, .int (nI a), .int d, .ref mm] f (Ql_ D B (fun r f9 => r = plR sg h (E i) a ∧ f9 = plF f mm t d (missE sg h (E i) a)))) ∧
    ((∃ fs, fi (ra i) = some (.inr (0, fs))) → Kc l D B K yX0_place cX0_place 7 (some .long) (i + 2) 0 0 [.ref (ra i), .ref hh, .int (nI a), .int d, .ref mm] f (Ql_ D B (fun r f9 => r = plR sg h (E i) a ∧ f9 = plF f mm t d (missE sg h (E i) a)))) ∧
    ((∃ fs, fi (ra i) = some (.inr (1, fs))) → Kc l D B K yX1_place cX1_place 14 (some .long) (i + 2) 0 0 [.ref (ra i), .ref hh, .int (nI a), .int d, .ref mm] f (Ql_ D B (fun r f9 => r = plR sg h (E i) a ∧ f9 = plF f mm t d (missE sg h (E i) a))))
section VT
variable {p : Program} {l : Launch} {e : Env} {R : Room} {s : State} {m : MethodId} {args : Array Value} {below : List Frame} {meth : Method} {c : Code} {D : va_G} {B nL : Nat} {Q : State → Prop} {ce sl : Nat} {f : St} {lv : Lv} {pc : Nat} {st : List Value} {cc : ByteArray} {own : String} {K : Nat → ClassId}
theorem v_rq {r : Option Nat} {a : Nat} (e9 : r = some a) (k : V p l e R s m args below meth c D B nL Q ce sl f lv pc (.ref a :: st)) : V p l e R s m args below meth c D B nL Q ce sl f lv pc (va_rf r :: st) := by subst e9; exact k
theorem v_rn {r : Option Nat} (e9 : r = none) (k : V p l e R s m args below meth c D B nL Q ce sl f lv pc (.null :: st)) : V p l e R s m args below meth c D B nL Q ce sl f lv pc (va_rf r :: st) := by subst e9; exact k
theorem v_getR (C : Cx p s m args c cc nL own D B K) {index a ci : Nat} {fs : List Value} {v : Value} (hd : decode cc pc = .ok (.getfield index, 3)) (k9 : Nat) (hk : k9 < 4) (hci : ci = 0 ∨ ci = 1 ∨ ci = 4 ∨ ci = 5) (he : f a = some (.inr (ci, fs))) (g1 : Cond.fieldLink own index "IndexRanges$Range" (TX6 k9).2.1 (TX6 k9).2.2.1 ∈ GT) (hv : fs[k9]? = some v) (k : V p l e R s m args below meth c D B nL Q ce sl f lv (pc + 3) (v :: st)) : V p l e R s m args below meth c D B nL Q ce sl f lv pc (.ref a :: st) := by
  have e0 : ∀ k, k < 4 → TX0 k = TX6 k := by decide +kernel
  have e1 : ∀ k, k < 4 → TX1 k = TX6 k := by decide +kernel
  have e4 : ∀ k, k < 4 → TX4 k = TX6 k := by decide +kernel
  have e6 : ∀ k, k < 4 → (TX6 k).1 = "IndexRanges$Range" := by decide +kernel
  rcases hci with rfl | rfl | rfl | rfl
  · exact v_get C hd k9 he rfl in_X0 (by omega) (by rw [e0 k9 hk]; exact g1) (fun x h9 => by rw [e0 k9 hk, e6 k9 hk] at h9; rw [e0 k9 hk]; exact h9) hv k
  · exact v_get C hd k9 he rfl in_X1 (by omega) (by rw [e1 k9 hk]; exact g1) (fun x h9 => by rw [e1 k9 hk, e6 k9 hk] at h9; rw [e1 k9 hk]; exact h9) hv k
  · exact v_get C hd k9 he rfl in_X4 (by omega) (by rw [e4 k9 hk]; exact g1) (fun x h9 => by rw [e4 k9 hk, e6 k9 hk] at h9; rw [e4 k9 hk]; exact h9) hv k
  · exact v_get C hd k9 he rfl in_X6 (by omega) g1 (fun x h9 => by rw [e6 k9 hk] at h9; exact h9) hv k
theorem v_place (C : Cx p s m args c cc nL own D B K) {sg : Nat → Sg} {E : Nat → List Ent} {ra : Nat → Nat} {kd : Nat → Int32} {fi : St} {i index hh ha mm a : Nat} {h : Nat → Int64} {t x y z d : Int32} {rest : List Value} (hd : decode cc pc = .ok (.invokevirtual index, 3)) (hT : RTi K sg E ra kd fi i) (hP : PLk l D B K sg E ra fi i) (hI : Imm fi f) (hH : f hh = some (.inr (2, [.ref ha]))) (hA : f ha = some (.inl (K 1, 8, .inr (.inl h)))) (hM : f mm = some (.inr (3, [.int t, .int x, .int y, .int z]))) (hw9 : a + (E i).length ≤ 8)
    (g1 : Cond.methodLink own index xR_place ∈ GT) (hR : RN R (i + 2 + 1)) (hst : st = [Value.ref mm, .int d, .int (nI a), .ref hh, .ref (ra i)] ++ rest) (hrest : (rest.map fun v => v.category).sum ≤ 8) (hf : ce ≤ R.cells ∧ sl ≤ R.slots)
    (k : V p l e R s m args below meth c D B nL Q ce sl (plF f mm t d (missE sg h (E i) a)) lv (pc + 3) (.long (plR sg h (E i) a) :: rest)) : V p l e R s m args below meth c D B nL Q ce sl f lv pc st := by
  obtain ⟨h7, h0, h1⟩ := hP f hh ha mm a h t x y z d hI hH hA hM hw9
  have hst2 : st = ([Value.ref hh, .int (nI a), .int d, .ref mm] : List Value).reverse ++ .ref (ra i) :: rest := hst
  rcases hT with ⟨⟨fst, lst, sp, q1, _⟩ | ⟨ar, fs, q1, _⟩, hE⟩ | ⟨j, _, q1, _, hE⟩ | ⟨js, pa, g, _, _, q1, _⟩
  · exact v_cl (r_A (x := xR_place) (owner := RX5) C (h7 (Or.inl ⟨_, q1⟩)) hd (hI _ _ q1) rfl g1 g_sm_X5_X5_place g_se_X6_X5_place_4ad2_yX7_place g_im_yX7_place g_in_X7 g_cd_yX7_place (by decide +kernel) hR (by decide) hst2 hdn_xR_place hrest hf) (fun r f9 hp => by obtain ⟨rfl, rfl⟩ := hp; exact k)
  · exact v_cl (r_A (x := xR_place) (owner := RX5) C (h7 (Or.inr ⟨_, q1⟩)) hd (hI _ _ q1) rfl g1 g_sm_X5_X5_place g_se_X4_X5_place_4ad2_yX7_place g_im_yX7_place g_in_X7 g_cd_yX7_place (by decide +kernel) hR (by decide) hst2 hdn_xR_place hrest hf) (fun r f9 hp => by obtain ⟨rfl, rfl⟩ := hp; exact k)
  · exact v_cl (r_A (x := xR_place) (owner := RX5) C (h0 ⟨_, q1⟩) hd (hI _ _ q1) rfl g1 g_sm_X5_X5_place g_se_X0_X5_place_4ad2_yX0_place g_im_yX0_place g_in_X0 g_cd_yX0_place (by decide +kernel) hR (by decide) hst2 hdn_xR_place hrest hf) (fun r f9 hp => by obtain ⟨rfl, rfl⟩ := hp; exact k)
  · exact v_cl (r_A (x := xR_place) (owner := RX5) C (h1 ⟨_, q1⟩) hd (hI _ _ q1) rfl g1 g_sm_X5_X5_place g_se_X1_X5_place_4ad2_yX1_place g_im_yX1_place g_in_X1 g_cd_yX1_place (by decide +kernel) hR (by decide) hst2 hdn_xR_place hrest hf) (fun r f9 hp => by obtain ⟨rfl, rfl⟩ := hp; exact k)
end VT
end
section
/-! place: singles, back, beside; all of them by induction over their numbers -/
set_option maxHeartbeats 4000000 in
set_option maxRecDepth 100000 in
theorem c_Single_place_X6 (l : Launch) (D : va_G) (B : Nat) (K : Nat → ClassId) (f : St) (sg : Nat → Sg) (E : Nat → List Ent) (ra : Nat → Nat) (kd : Nat → Int32) (fi : St) (i hh ha mm a : Nat) (h : Nat → Int64) (t x y z d : Int32) (fst lst : Int64) (sp : Int32) (hrow : rowOK (sg i) fst lst sp) (hok : ∀ o, okS (sg o)) (hI : Imm fi f) (hH : f hh = some (.inr (2, [.ref ha]))) (hA : f ha = some (.inl (K 1, 8, .inr (.inl h)))) (hM : f mm = some (.inr (3, [.int t, .int x, .int y, .int z]))) (hw9 : a + (E i).length ≤ 8) (hq : fi (ra i) = some (.inr (5, [.int (nI i), .int (kd i), .int 1, .long (sat (cntS (sg i))), .long fst, .long lst, .int sp]))) (hE : E i = [(i, false, 0)]) : Kc l D B K yX7_place cX7_place 7 ((some .long)) (i + 2) 0 0 [.ref (ra i), .ref hh, .int (nI a), .int d, .ref mm] f (Ql_ D B (fun r f9 => r = plR sg h (E i) a ∧ f9 = plF f mm t d (missE sg h (E i) a))) := by
  refine v_met [(0, .ref (ra i)), (1, .ref hh), (2, .int (nI a)), (3, .int d), (4, .ref mm)] (by decide) (Nat.le_of_ble_eq_true rfl) rfl ?_
  intro p e s m args below meth c C hr hlk hin
  have h0 := hI _ _ hq
  have ha8 : a < 8 := by rw [hE] at hw9; exact Nat.lt_of_succ_le hw9
  refine v_aload_n C dX7_place_0 rfl rfl ?_
  refine v_aload_n C dX7_place_1 rfl rfl ?_
  refine v_iload_n C dX7_place_2 rfl rfl ?_
  refine v_cl (r_V C (c_look l D B K _ hh h (nI a) ha hH hA) dX7_place_3 hH rfl g_ml_X7_9 g_im_yX2_look g_se_X2_yX2_look_yX2_look g_in_X2 g_cd_yX2_look (rn_le (by omega)) (by decide) rfl rfl hdn_yX2_look (Nat.le_of_ble_eq_true rfl) ⟨Nat.le_of_ble_eq_true rfl, Nat.le_of_ble_eq_true rfl⟩) (fun r_3 f_3 hp_3 => ?_)
  obtain ⟨rfl, rfl⟩ := hp_3
  refine v_rl (look_eq ha8) ?_
  refine v_cl (r_A (x := xS_placeOf) (owner := RX7) C (c_Row_placeOf l D B K _ (ra i) _ _ _ _ _ _ _ h0) dX7_place_6 h0 rfl g_ml_X7_15 g_sm_X7_X7_placeOf g_se_X6_X7_placeOf_467d_yX6_placeOf g_im_yX6_placeOf g_in_X6 g_cd_yX6_placeOf (by decide +kernel) (rn_le (by omega)) (by decide) rfl hdn_xS_placeOf (Nat.le_of_ble_eq_true rfl) ⟨Nat.le_of_ble_eq_true rfl, Nat.le_of_ble_eq_true rfl⟩) (fun r_6 f_6 hp_6 => ?_)
  obtain ⟨rfl, rfl⟩ := hp_6
  refine v_rl (rp_eq (hok i) hrow (h a)) ?_
  rw [hE]
  cases hp : posS (sg i) (h a) with
  | none =>
    refine v_lstore C dX7_place_9 (by decide) rfl ?_
    refine v_lload C dX7_place_11 rfl ?_
    refine v_ldc2 C dX7_place_13 g_kl_X7_21 ?_
    refine v_lc_ne (tgt := 31) C dX7_place_16 dX7_place_17 (by decide) (fun c_16 => absurd (show pmS none = -2 from rfl) c_16) (fun c_16 => ?_)
    refine v_aload C dX7_place_20 rfl ?_
    refine v_aload_n C dX7_place_22 rfl rfl ?_
    refine v_get C dX7_place_23 0 h0 rfl in_X6 (by decide) g_fl_X7_23 (fun x9 h9 => u_same (C.2.2.2.2.1 _ g_sf_X7_number) x9 h9) rfl ?_
    refine v_iload_n C dX7_place_26 rfl rfl ?_
    refine v_iload_n C dX7_place_27 rfl rfl ?_
    refine v_cv (r_V C (c_note l D B K _ mm t x y z _ _ _ hM) dX7_place_28 hM rfl g_ml_X7_27 g_im_yX3_note g_se_X3_yX3_note_yX3_note g_in_X3 g_cd_yX3_note (rn_le (by omega)) (by decide) rfl rfl hdn_yX3_note (Nat.le_of_ble_eq_true rfl) ⟨Nat.le_of_ble_eq_true rfl, Nat.le_of_ble_eq_true rfl⟩) (fun f_28 hp_28 => ?_)
    subst hp_28
    refine v_lload C dX7_place_31 rfl ?_
    exact v_lret C hr hlk dX7_place_33 (Nat.le_refl _) (Nat.le_refl _) ⟨by simp [plR, missE, hp, pmS], by simp [plF, missE, hp, nI_0]⟩
  | some k =>
    refine v_lstore C dX7_place_9 (by decide) rfl ?_
    refine v_lload C dX7_place_11 rfl ?_
    refine v_ldc2 C dX7_place_13 g_kl_X7_21 ?_
    refine v_lc_ne (tgt := 31) C dX7_place_16 dX7_place_17 (by decide) (fun c_16 => ?_) (fun c_16 => absurd c_16 (sat_n2 k))
    refine v_lload C dX7_place_31 rfl ?_
    exact v_lret C hr hlk dX7_place_33 (Nat.le_refl _) (Nat.le_refl _) ⟨by simp [plR, missE, hp, pmS, idxE, digE], by simp [plF, missE, hp]⟩

set_option maxHeartbeats 4000000 in
set_option maxRecDepth 100000 in
theorem c_Single_place_X4 (l : Launch) (D : va_G) (B : Nat) (K : Nat → ClassId) (f : St) (sg : Nat → Sg) (E : Nat → List Ent) (ra : Nat → Nat) (kd : Nat → Int32) (fi : St) (i hh ha mm a : Nat) (h : Nat → Int64) (t x y z d : Int32) (ar fs : Int32) (hrow : namesOK (sg i) ar fs) (hok : ∀ o, okS (sg o)) (hI : Imm fi f) (hH : f hh = some (.inr (2, [.ref ha]))) (hA : f ha = some (.inl (K 1, 8, .inr (.inl h)))) (hM : f mm = some (.inr (3, [.int t, .int x, .int y, .int z]))) (hw9 : a + (E i).length ≤ 8) (hq : fi (ra i) = some (.inr (4, [.int (nI i), .int (kd i), .int 1, .long (sat (cntS (sg i))), .int ar, .int fs]))) (hE : E i = [(i, false, 0)]) : Kc l D B K yX7_place cX7_place 7 ((some .long)) (i + 2) 0 0 [.ref (ra i), .ref hh, .int (nI a), .int d, .ref mm] f (Ql_ D B (fun r f9 => r = plR sg h (E i) a ∧ f9 = plF f mm t d (missE sg h (E i) a))) := by
  refine v_met [(0, .ref (ra i)), (1, .ref hh), (2, .int (nI a)), (3, .int d), (4, .ref mm)] (by decide) (Nat.le_of_ble_eq_true rfl) rfl ?_
  intro p e s m args below meth c C hr hlk hin
  have h0 := hI _ _ hq
  have ha8 : a < 8 := by rw [hE] at hw9; exact Nat.lt_of_succ_le hw9
  refine v_aload_n C dX7_place_0 rfl rfl ?_
  refine v_aload_n C dX7_place_1 rfl rfl ?_
  refine v_iload_n C dX7_place_2 rfl rfl ?_
  refine v_cl (r_V C (c_look l D B K _ hh h (nI a) ha hH hA) dX7_place_3 hH rfl g_ml_X7_9 g_im_yX2_look g_se_X2_yX2_look_yX2_look g_in_X2 g_cd_yX2_look (rn_le (by omega)) (by decide) rfl rfl hdn_yX2_look (Nat.le_of_ble_eq_true rfl) ⟨Nat.le_of_ble_eq_true rfl, Nat.le_of_ble_eq_true rfl⟩) (fun r_3 f_3 hp_3 => ?_)
  obtain ⟨rfl, rfl⟩ := hp_3
  refine v_rl (look_eq ha8) ?_
  refine v_cl (r_A (x := xS_placeOf) (owner := RX7) C (c_Names_placeOf l D B K _ (ra i) _ _ _ _ _ _ h0) dX7_place_6 h0 rfl g_ml_X7_15 g_sm_X7_X7_placeOf g_se_X4_X7_placeOf_467d_yX4_placeOf g_im_yX4_placeOf g_in_X4 g_cd_yX4_placeOf (by decide +kernel) (rn_le (by omega)) (by decide) rfl hdn_xS_placeOf (Nat.le_of_ble_eq_true rfl) ⟨Nat.le_of_ble_eq_true rfl, Nat.le_of_ble_eq_true rfl⟩) (fun r_6 f_6 hp_6 => ?_)
  obtain ⟨rfl, rfl⟩ := hp_6
  refine v_rl (np_eq (hok i) hrow (h a)) ?_
  rw [hE]
  cases hp : posS (sg i) (h a) with
  | none =>
    refine v_lstore C dX7_place_9 (by decide) rfl ?_
    refine v_lload C dX7_place_11 rfl ?_
    refine v_ldc2 C dX7_place_13 g_kl_X7_21 ?_
    refine v_lc_ne (tgt := 31) C dX7_place_16 dX7_place_17 (by decide) (fun c_16 => absurd (show pmS none = -2 from rfl) c_16) (fun c_16 => ?_)
    refine v_aload C dX7_place_20 rfl ?_
    refine v_aload_n C dX7_place_22 rfl rfl ?_
    refine v_get C dX7_place_23 0 h0 rfl in_X4 (by decide) g_fl_X7_23 (fun x9 h9 => u_same (C.2.2.2.2.1 _ g_sf_X7_number) x9 h9) rfl ?_
    refine v_iload_n C dX7_place_26 rfl rfl ?_
    refine v_iload_n C dX7_place_27 rfl rfl ?_
    refine v_cv (r_V C (c_note l D B K _ mm t x y z _ _ _ hM) dX7_place_28 hM rfl g_ml_X7_27 g_im_yX3_note g_se_X3_yX3_note_yX3_note g_in_X3 g_cd_yX3_note (rn_le (by omega)) (by decide) rfl rfl hdn_yX3_note (Nat.le_of_ble_eq_true rfl) ⟨Nat.le_of_ble_eq_true rfl, Nat.le_of_ble_eq_true rfl⟩) (fun f_28 hp_28 => ?_)
    subst hp_28
    refine v_lload C dX7_place_31 rfl ?_
    exact v_lret C hr hlk dX7_place_33 (Nat.le_refl _) (Nat.le_refl _) ⟨by simp [plR, missE, hp, pmS], by simp [plF, missE, hp, nI_0]⟩
  | some k =>
    refine v_lstore C dX7_place_9 (by decide) rfl ?_
    refine v_lload C dX7_place_11 rfl ?_
    refine v_ldc2 C dX7_place_13 g_kl_X7_21 ?_
    refine v_lc_ne (tgt := 31) C dX7_place_16 dX7_place_17 (by decide) (fun c_16 => ?_) (fun c_16 => absurd c_16 (sat_n2 k))
    refine v_lload C dX7_place_31 rfl ?_
    exact v_lret C hr hlk dX7_place_33 (Nat.le_refl _) (Nat.le_refl _) ⟨by simp [plR, missE, hp, pmS, idxE, digE], by simp [plF, missE, hp]⟩

theorem back_eq {N i k : Nat} (hN : N < 9223372036854775808) (h : k + i + 1 = N) : sat N - 1 - sat i = sat k := by
  rw [sat_lt hN, sat_lt (by omega), sat_lt (by omega)]
  rw [show (1 : Int64) = lN 1 from rfl, lN_sub (by omega), lN_sub (by omega)]
  congr 1
  omega
set_option maxHeartbeats 4000000 in
set_option maxRecDepth 100000 in
theorem c_Back_place (l : Launch) (D : va_G) (B : Nat) (K : Nat → ClassId) (f : St) (sg : Nat → Sg) (E : Nat → List Ent) (ra : Nat → Nat) (kd : Nat → Int32) (fi : St) (i hh ha mm a : Nat) (h : Nat → Int64) (t x y z d : Int32) (j : Nat) (hok : ∀ o, okS (sg o)) (hI : Imm fi f) (hH : f hh = some (.inr (2, [.ref ha]))) (hA : f ha = some (.inl (K 1, 8, .inr (.inl h)))) (hM : f mm = some (.inr (3, [.int t, .int x, .int y, .int z]))) (hw9 : a + (E i).length ≤ 8) (hq : fi (ra i) = some (.inr (0, [.int (nI i), .int (kd i), .int (nI (E j).length), .long (sat (prodE sg (E j))), .ref (ra j)]))) (hji : j < i) (hz : prodE sg (E j) < 9223372036854775808) (hE : E i = (E j).map flipE) (hTj : RTi K sg E ra kd fi j) (hPj : PLk l D B K sg E ra fi j) : Kc l D B K yX0_place cX0_place 7 ((some .long)) (i + 2) 0 0 [.ref (ra i), .ref hh, .int (nI a), .int d, .ref mm] f (Ql_ D B (fun r f9 => r = plR sg h (E i) a ∧ f9 = plF f mm t d (missE sg h (E i) a))) := by
  refine v_met [(0, .ref (ra i)), (1, .ref hh), (2, .int (nI a)), (3, .int d), (4, .ref mm)] (by decide) (Nat.le_of_ble_eq_true rfl) rfl ?_
  intro p e s m args below meth c C hr hlk hin
  have h0 := hI _ _ hq
  refine v_aload_n C dX0_place_0 rfl rfl ?_
  refine v_get C dX0_place_1 4 h0 rfl in_X0 (by decide) g_fl_X0_17 (fun _ h9 => h9) rfl ?_
  refine v_aload_n C dX0_place_4 rfl rfl ?_
  refine v_iload_n C dX0_place_5 rfl rfl ?_
  refine v_iload_n C dX0_place_6 rfl rfl ?_
  refine v_iconst (v := 1) C dX0_place_7 (by decide) ?_
  refine v_iadd C dX0_place_8 ?_
  refine v_aload C dX0_place_9 rfl ?_
  refine v_place (i := j) (a := a) (d := d + 1) C dX0_place_11 hTj hPj hI hH hA hM (by rw [hE, List.length_map] at hw9; exact hw9) g_ml_X0_23 (rn_le (by omega)) rfl (Nat.le_of_ble_eq_true rfl) ⟨Nat.le_refl _, Nat.le_refl _⟩ ?_
  rw [hE, miss_map sg h (E j) (g := flipE) (fun _ => rfl)]
  cases hm : missE sg h (E j) a with
  | some q =>
    have e9 : plR sg h (E j) a = -2 := by simp [plR, hm]
    refine v_rl e9 ?_
    refine v_lstore C dX0_place_14 (by decide) rfl ?_
    refine v_lload C dX0_place_16 rfl ?_
    refine v_ldc2 C dX0_place_18 g_kl_X0_27 ?_
    refine v_lc_ne (tgt := 31) C dX0_place_21 dX0_place_22 (by decide) (fun c_21 => absurd rfl c_21) (fun c_21 => ?_)
    refine v_ldc2 C dX0_place_25 g_kl_X0_27 ?_
    refine v_goto (tgt := 40) C dX0_place_28 (by decide) ?_
    exact v_lret C hr hlk dX0_place_40 (Nat.le_refl _) (Nat.le_refl _) ⟨by simp [plR, hE, miss_map sg h (E j) (g := flipE) (fun _ => rfl), hm], by simp [plF, flipE]; rw [nI_succ, Int32.add_assoc, Int32.add_comm 1]⟩
  | none =>
    have e9 : plR sg h (E j) a = sat (idxE sg h (E j) a 0) := by simp [plR, hm]
    refine v_rl e9 ?_
    have hfl := idx_flip hok hm
    refine v_lstore C dX0_place_14 (by decide) rfl ?_
    refine v_lload C dX0_place_16 rfl ?_
    refine v_ldc2 C dX0_place_18 g_kl_X0_27 ?_
    refine v_lc_ne (tgt := 31) C dX0_place_21 dX0_place_22 (by decide) (fun c_21 => ?_) (fun c_21 => absurd c_21 (sat_n2 _))
    refine v_aload_n C dX0_place_31 rfl rfl ?_
    refine v_get C dX0_place_32 3 h0 rfl in_X0 (by decide) g_fl_X0_29 (fun x9 h9 => u_same (C.2.2.2.2.1 _ g_sf_X0_size) x9 h9) rfl ?_
    refine v_lconst (v := 1) C dX0_place_35 (by decide) ?_
    refine v_lsub C dX0_place_36 ?_
    refine v_lload C dX0_place_37 rfl ?_
    refine v_lsub C dX0_place_39 ?_
    exact v_lret C hr hlk dX0_place_40 (Nat.le_refl _) (Nat.le_refl _) ⟨by simp only [plR, hE, miss_map sg h (E j) (g := flipE) (fun _ => rfl), hm, Option.map_none]; exact back_eq hz (by omega), rfl⟩
end
section
/-! place: beside; then all ranges by their numbers -/
theorem take_fm {js : List Nat} {tt j : Nat} (E : Nat → List Ent) (hj : js[tt]? = some j) : (js.take (tt + 1)).flatMap E = (js.take tt).flatMap E ++ E j := by
  rw [List.take_succ, hj, List.flatMap_append]
  simp
theorem split_fm {js : List Nat} {tt j : Nat} (E : Nat → List Ent) (hj : js[tt]? = some j) : js.flatMap E = (js.take tt).flatMap E ++ (E j ++ (js.drop (tt + 1)).flatMap E) := by
  have h1 : js = js.take (tt + 1) ++ js.drop (tt + 1) := (List.take_append_drop _ _).symm
  conv => lhs; rw [h1, List.flatMap_append, take_fm E hj, List.append_assoc]
theorem fm_len {js : List Nat} {tt j : Nat} (E : Nat → List Ent) (hj : js[tt]? = some j) : ((js.take tt).flatMap E).length + (E j).length ≤ (js.flatMap E).length := by
  rw [split_fm E hj, List.length_append, List.length_append]
  omega
theorem be_next {sg : Nat → Sg} {h : Nat → Int64} {E : Nat → List Ent} {js : List Nat} {tt j a : Nat} (hj : js[tt]? = some j) : plC (tmC (sat (idxE sg h ((js.take tt).flatMap E) a 0)) (sat (prodE sg (E j)))) (sat (idxE sg h (E j) (a + ((js.take tt).flatMap E).length) 0)) = sat (idxE sg h ((js.take (tt + 1)).flatMap E) a 0) := by
  rw [tm_sat, pl_sat, take_fm E hj, idx_app, idx_acc sg h (E j) _ (idxE sg h ((js.take tt).flatMap E) a 0)]
theorem be_wide {E : Nat → List Ent} {js : List Nat} {tt j a : Nat} (hj : js[tt]? = some j) : nI (a + ((js.take tt).flatMap E).length) + nI (E j).length = nI (a + ((js.take (tt + 1)).flatMap E).length) := by
  rw [nI_add, take_fm E hj, List.length_append, Nat.add_assoc]
theorem be_none {sg : Nat → Sg} {h : Nat → Int64} {E : Nat → List Ent} {js : List Nat} {tt j a : Nat} (hj : js[tt]? = some j) (h1 : missE sg h ((js.take tt).flatMap E) a = none) (h2 : missE sg h (E j) (a + ((js.take tt).flatMap E).length) = none) : missE sg h ((js.take (tt + 1)).flatMap E) a = none := by
  rw [take_fm E hj, miss_app, h1]
  exact h2
theorem be_some {sg : Nat → Sg} {h : Nat → Int64} {E : Nat → List Ent} {js : List Nat} {tt j a : Nat} {q : Nat × Ent} (hj : js[tt]? = some j) (h1 : missE sg h ((js.take tt).flatMap E) a = none) (h2 : missE sg h (E j) (a + ((js.take tt).flatMap E).length) = some q) : missE sg h (js.flatMap E) a = some q := by
  rw [split_fm E hj, miss_app, h1]
  show missE sg h (E j ++ _) (a + _) = some q
  rw [miss_app, h2]
set_option maxHeartbeats 4000000 in
set_option maxRecDepth 100000 in
theorem L_Beside_place {p : Program} {l : Launch} {e : Env} {s : State} {m : MethodId} {args : Array Value} {below : List Frame} {meth : Method} {c : Code} {D : va_G} {B : Nat} {K : Nat → ClassId} (C : Cx p s m args c cX1_place 14 yX1_place.cls D B K) (hr : meth.sig.returnType = some .long) (hlk : meth.locks = false) (f : St) (sg : Nat → Sg) (E : Nat → List Ent) (ra : Nat → Nat) (kd : Nat → Int32) (fi : St) (i hh ha mm a : Nat) (h : Nat → Int64) (t x y z d : Int32) (hok : ∀ o, okS (sg o)) (hI : Imm fi f) (hH : f hh = some (.inr (2, [.ref ha]))) (hA : f ha = some (.inl (K 1, 8, .inr (.inl h)))) (hM : f mm = some (.inr (3, [.int t, .int x, .int y, .int z]))) (hw9 : a + (E i).length ≤ 8) (js : List Nat) (pa : Nat) (g : Nat → Option Nat) (hpa : f pa = some (.inl (K 3, js.length, .inr (.inr (.inr (.inr g)))))) (h3 : js.length ≤ 3) (hg : ∀ t j, js[t]? = some j → g t = some (ra j)) (hE : E i = (js.flatMap E).map deepE) (hjs : ∀ j ∈ js, j < i ∧ RTi K sg E ra kd fi j ∧ PLk l D B K sg E ra fi j) : ∀ (n tt : Nat), tt ≤ js.length → js.length + 1 ≤ tt + n → missE sg h ((js.take tt).flatMap E) a = none → V p l e (RM (i + 2) 0 0) s m args below meth c D B 14 (MQ below (Ql_ D B (fun r f9 => r = plR sg h (E i) a ∧ f9 = plF f mm t d (missE sg h (E i) a))) args s 0 0 (AB B)) 0 0 f (lof [(1, .ref hh), (3, .int d), (4, .ref mm), (5, .long (sat (idxE sg h ((js.take tt).flatMap E) a 0))), (7, .int (nI (a + ((js.take tt).flatMap E).length))), (8, .ref pa), (9, .int (nI js.length)), (10, .int (nI tt))]) 20 [] := by
  have hw9 : a + (js.flatMap E).length ≤ 8 := by rw [hE, List.length_map] at hw9; exact hw9
  intro n
  induction n with
  | zero => intro tt h1 h2; omega
  | succ n ih =>
    intro tt htt hin hm
    refine v_iload C dX1_place_20 rfl ?_
    refine v_iload C dX1_place_22 rfl ?_
    by_cases hlt : tt < js.length
    · refine v_icmp_ge (tgt := 95) C dX1_place_24 (by decide) (fun c9 => absurd c9 (nI_ge hlt (by omega))) (fun _ => ?_)
      obtain ⟨j, hj⟩ : ∃ j, js[tt]? = some j := ⟨_, List.getElem?_eq_getElem hlt⟩
      obtain ⟨hji, hTj, hPj⟩ := hjs j (List.mem_of_getElem? hj)
      obtain ⟨ci, fs, hci, hcell, hf0, hf1, hf2, hf3⟩ := RT_hdr hTj
      refine v_aload C dX1_place_27 rfl ?_
      refine v_iload C dX1_place_29 rfl ?_
      refine v_aldq C dX1_place_31 hpa (vp_in_nI hlt (by omega)) ?_
      refine v_rq (by rw [nI_clamp (by omega)]; exact hg tt j hj) ?_
      refine v_astore C dX1_place_32 (by decide) rfl ?_
      refine v_aload C dX1_place_34 rfl ?_
      refine v_aload_n C dX1_place_36 rfl rfl ?_
      refine v_iload C dX1_place_37 rfl ?_
      refine v_iload_n C dX1_place_39 rfl rfl ?_
      refine v_iconst (v := 1) C dX1_place_40 (by decide) ?_
      refine v_iadd C dX1_place_41 ?_
      refine v_aload C dX1_place_42 rfl ?_
      refine v_place (i := j) (a := a + ((js.take tt).flatMap E).length) (d := d + 1) C dX1_place_44 hTj hPj hI hH hA hM (by have h9 := fm_len E hj; omega) g_ml_X1_15 (rn_le (by omega)) rfl (Nat.le_of_ble_eq_true rfl) ⟨Nat.le_refl _, Nat.le_refl _⟩ ?_
      cases hmj : missE sg h (E j) (a + ((js.take tt).flatMap E).length) with
      | some q =>
        have e9 : plR sg h (E j) (a + ((js.take tt).flatMap E).length) = -2 := by unfold plR; rw [hmj]
        refine v_rl e9 ?_
        refine v_lstore C dX1_place_47 (by decide) rfl ?_
        refine v_lload C dX1_place_49 rfl ?_
        refine v_ldc2 C dX1_place_51 g_kl_X1_19 ?_
        refine v_lc_ne (tgt := 62) C dX1_place_54 dX1_place_55 (by decide) (fun c_54 => absurd rfl c_54) (fun c_54 => ?_)
        refine v_ldc2 C dX1_place_58 g_kl_X1_19 ?_
        exact v_lret C hr hlk dX1_place_61 (Nat.le_refl _) (Nat.le_refl _) ⟨by simp [plR, hE, miss_map sg h _ (g := deepE) (fun _ => rfl), be_some hj hm hmj], by simp [plF, hE, miss_map sg h _ (g := deepE) (fun _ => rfl), be_some hj hm hmj, deepE]; rw [nI_succ, Int32.add_assoc, Int32.add_comm 1]⟩
      | none =>
        have e9 : plR sg h (E j) (a + ((js.take tt).flatMap E).length) = sat (idxE sg h (E j) (a + ((js.take tt).flatMap E).length) 0) := by unfold plR; rw [hmj]
        refine v_rl e9 ?_
        refine v_lstore C dX1_place_47 (by decide) rfl ?_
        refine v_lload C dX1_place_49 rfl ?_
        refine v_ldc2 C dX1_place_51 g_kl_X1_19 ?_
        refine v_lc_ne (tgt := 62) C dX1_place_54 dX1_place_55 (by decide) (fun c_54 => ?_) (fun c_54 => absurd c_54 (sat_n2 _))
        refine v_lload C dX1_place_62 rfl ?_
        refine v_aload C dX1_place_64 rfl ?_
        refine v_getR C dX1_place_66 3 (by decide) hci (hI _ _ hcell) g_fl_X1_21 hf3 ?_
        refine v_cl (r_SN (host := RX8) C (c_times l D B K _ _ _) dX1_place_69 (by decide +kernel) g_st_yX8_times g_in_X8 g_cd_yX8_times (rn_le (by omega)) (by decide) rfl hdn_yX8_times (Nat.le_of_ble_eq_true rfl) ⟨Nat.le_of_ble_eq_true rfl, Nat.le_of_ble_eq_true rfl⟩) (fun r_69 f_69 hp_69 => ?_)
        obtain ⟨rfl, rfl⟩ := hp_69
        refine v_lload C dX1_place_72 rfl ?_
        refine v_cl (r_SN (host := RX8) C (c_plus l D B K _ _ _) dX1_place_74 (by decide +kernel) g_st_yX8_plus g_in_X8 g_cd_yX8_plus (rn_le (by omega)) (by decide) rfl hdn_yX8_plus (Nat.le_of_ble_eq_true rfl) ⟨Nat.le_of_ble_eq_true rfl, Nat.le_of_ble_eq_true rfl⟩) (fun r_74 f_74 hp_74 => ?_)
        obtain ⟨rfl, rfl⟩ := hp_74
        refine v_rl (be_next hj) ?_
        refine v_lstore C dX1_place_77 (by decide) rfl ?_
        refine v_iload C dX1_place_79 rfl ?_
        refine v_aload C dX1_place_81 rfl ?_
        refine v_getR C dX1_place_83 2 (by decide) hci (hI _ _ hcell) g_fl_X1_32 hf2 ?_
        refine v_iadd C dX1_place_86 ?_
        refine v_ri (be_wide hj) ?_
        refine v_istore C dX1_place_87 (by decide) rfl ?_
        refine v_iinc (y := 1) C dX1_place_89 rfl (by decide) (by decide) rfl ?_
        refine v_goto (tgt := 20) C dX1_place_92 (by decide) ?_
        refine v_loc [(1, .ref hh), (3, .int d), (4, .ref mm), (5, .long (sat (idxE sg h ((js.take (tt + 1)).flatMap E) a 0))), (7, .int (nI (a + ((js.take (tt + 1)).flatMap E).length))), (8, .ref pa), (9, .int (nI js.length)), (10, .int (nI (tt + 1)))] (lsub_c rfl (lsub_c rfl (lsub_c rfl (lsub_c rfl (lsub_c rfl (lsub_c rfl (lsub_c rfl (lsub_c (by rw [nI_succ]; rfl) lsub_n)))))))) ?_
        exact ih (tt + 1) hlt (by omega) (be_none hj hm hmj)
    · refine v_icmp_ge (tgt := 95) C dX1_place_24 (by decide) (fun _ => ?_) (fun c9 => absurd (nI_le (by omega) (by omega)) c9)
      refine v_lload C dX1_place_95 rfl ?_
      refine v_lret C hr hlk dX1_place_97 (Nat.le_refl _) (Nat.le_refl _) ⟨?_, ?_⟩
      · rw [plR, hE, miss_map sg h _ (g := deepE) (fun _ => rfl), idx_deep]
        rw [List.take_of_length_le (by omega)] at hm ⊢
        rw [hm]; rfl
      · rw [hE, miss_map sg h _ (g := deepE) (fun _ => rfl)]
        rw [List.take_of_length_le (by omega)] at hm
        rw [hm]; rfl

set_option maxHeartbeats 4000000 in
set_option maxRecDepth 100000 in
theorem c_Beside_place (l : Launch) (D : va_G) (B : Nat) (K : Nat → ClassId) (f : St) (sg : Nat → Sg) (E : Nat → List Ent) (ra : Nat → Nat) (kd : Nat → Int32) (fi : St) (i hh ha mm a : Nat) (h : Nat → Int64) (t x y z d : Int32) (hok : ∀ o, okS (sg o)) (hI : Imm fi f) (hH : f hh = some (.inr (2, [.ref ha]))) (hA : f ha = some (.inl (K 1, 8, .inr (.inl h)))) (hM : f mm = some (.inr (3, [.int t, .int x, .int y, .int z]))) (hw9 : a + (E i).length ≤ 8) (js : List Nat) (pa : Nat) (g : Nat → Option Nat) (hpa : f pa = some (.inl (K 3, js.length, .inr (.inr (.inr (.inr g)))))) (h3 : js.length ≤ 3) (hg : ∀ t j, js[t]? = some j → g t = some (ra j)) (hE : E i = (js.flatMap E).map deepE) (hjs : ∀ j ∈ js, j < i ∧ RTi K sg E ra kd fi j ∧ PLk l D B K sg E ra fi j) (hq : fi (ra i) = some (.inr (1, [.int (nI i), .int (kd i), .int (nI (E i).length), .long (sat (prodE sg (E i))), .ref pa]))) : Kc l D B K yX1_place cX1_place 14 ((some .long)) (i + 2) 0 0 [.ref (ra i), .ref hh, .int (nI a), .int d, .ref mm] f (Ql_ D B (fun r f9 => r = plR sg h (E i) a ∧ f9 = plF f mm t d (missE sg h (E i) a))) := by
  refine v_met [(0, .ref (ra i)), (1, .ref hh), (2, .int (nI a)), (3, .int d), (4, .ref mm)] (by decide) (Nat.le_of_ble_eq_true rfl) rfl ?_
  intro p e s m args below meth c C hr hlk hin
  have h0 := hI _ _ hq
  refine v_lconst (v := 0) C dX1_place_0 (by decide) ?_
  refine v_lstore C dX1_place_1 (by decide) rfl ?_
  refine v_iload_n C dX1_place_3 rfl rfl ?_
  refine v_istore C dX1_place_4 (by decide) rfl ?_
  refine v_aload_n C dX1_place_6 rfl rfl ?_
  refine v_get C dX1_place_7 4 h0 rfl in_X1 (by decide) g_fl_X1_9 (fun _ h9 => h9) rfl ?_
  refine v_astore C dX1_place_10 (by decide) rfl ?_
  refine v_aload C dX1_place_12 rfl ?_
  refine v_alen C dX1_place_14 3 hpa rfl rfl ?_
  refine v_istore C dX1_place_15 (by decide) rfl ?_
  refine v_iconst (v := 0) C dX1_place_17 (by decide) ?_
  refine v_istore C dX1_place_18 (by decide) rfl ?_
  refine v_loc [(1, .ref hh), (3, .int d), (4, .ref mm), (5, .long (sat (idxE sg h ((js.take 0).flatMap E) a 0))), (7, .int (nI (a + ((js.take 0).flatMap E).length))), (8, .ref pa), (9, .int (nI js.length)), (10, .int (nI 0))] (lsub_c rfl (lsub_c rfl (lsub_c rfl (lsub_c rfl (lsub_c rfl (lsub_c rfl (lsub_c rfl (lsub_c rfl lsub_n)))))))) ?_
  exact L_Beside_place C hr hlk f sg E ra kd fi i hh ha mm a h t x y z d hok hI hH hA hM hw9 js pa g hpa h3 hg hE hjs (js.length + 1) 0 (Nat.zero_le _) (by omega) rfl

theorem place_all (l : Launch) (D : va_G) (B : Nat) (K : Nat → ClassId) {sg : Nat → Sg} {E : Nat → List Ent} {ra : Nat → Nat} {kd : Nat → Int32} {fi : St} {n : Nat} (hT : RT K sg E ra kd fi n) : ∀ i, i < n → PLk l D B K sg E ra fi i := by
  intro i
  induction i using Nat.strongRecOn with
  | _ i ih =>
    intro hi f hh ha mm a h t x y z d hI hH hA hM hw9
    obtain ⟨hok, hT2⟩ := hT
    rcases (hT2 i hi).1 with ⟨⟨fst, lst, sp, q1, q2⟩ | ⟨ar, fs, q1, q2⟩, hE⟩ | ⟨j, hj, q1, q2, hE⟩ | ⟨js, pa, g, q0, q3, q1, q2, q4, hE⟩
    · refine ⟨fun _ => c_Single_place_X6 l D B K f sg E ra kd fi i hh ha mm a h t x y z d fst lst sp q2 hok hI hH hA hM hw9 q1 hE, fun h9 => ?_, fun h9 => ?_⟩
      · obtain ⟨fs, h9⟩ := h9; rw [q1] at h9; simp at h9
      · obtain ⟨fs, h9⟩ := h9; rw [q1] at h9; simp at h9
    · refine ⟨fun _ => c_Single_place_X4 l D B K f sg E ra kd fi i hh ha mm a h t x y z d ar fs q2 hok hI hH hA hM hw9 q1 hE, fun h9 => ?_, fun h9 => ?_⟩
      · obtain ⟨fs, h9⟩ := h9; rw [q1] at h9; simp at h9
      · obtain ⟨fs, h9⟩ := h9; rw [q1] at h9; simp at h9
    · refine ⟨fun h9 => ?_, fun _ => c_Back_place l D B K f sg E ra kd fi i hh ha mm a h t x y z d j hok hI hH hA hM hw9 q1 hj q2 hE (hT2 j (by omega)).1 (ih j hj (by omega)), fun h9 => ?_⟩
      · rcases h9 with ⟨fs, h9⟩ | ⟨fs, h9⟩ <;> (rw [q1] at h9; simp at h9)
      · obtain ⟨fs, h9⟩ := h9; rw [q1] at h9; simp at h9
    · refine ⟨fun h9 => ?_, fun h9 => ?_, fun _ => c_Beside_place l D B K f sg E ra kd fi i hh ha mm a h t x y z d hok hI hH hA hM hw9 js pa g (hI _ _ q2) q3 q4 hE (fun j hj => ⟨q0 j hj, (hT2 j (by have := q0 j hj; omega)).1, ih j (q0 j hj) (by have := q0 j hj; omega)⟩) q1⟩
      · rcases h9 with ⟨fs, h9⟩ | ⟨fs, h9⟩ <;> (rw [q1] at h9; simp at h9)
      · obtain ⟨fs, h9⟩ := h9; rw [q1] at h9; simp at h9
end
section
/-! fill: the element of an index, number by number -/
def vE (sg : Nat → Sg) : List Ent → Nat → Nat → Int64
  | [], _, _ => 0
  | e :: t, k, 0 => valS (sg e.1) (digE sg e (k / prodE sg t))
  | _ :: t, k, j + 1 => vE sg t (k % prodE sg t) j
def filG (sg : Nat → Sg) (l : List Ent) (a k : Nat) (g : Nat → Int64) : Nat → Int64 := fun j => if a ≤ j ∧ j < a + l.length then vE sg l k (j - a) else g j
theorem vE_app (sg : Nat → Sg) (l1 l2 : List Ent) : ∀ k j, vE sg (l1 ++ l2) k j = if j < l1.length then vE sg l1 (k / prodE sg l2) j else vE sg l2 (if l1 = [] then k else k % prodE sg l2) (j - l1.length) := by
  induction l1 with
  | nil => intro k j; simp
  | cons e t ih =>
    intro k j
    rw [if_neg (List.cons_ne_nil e t)]
    cases j with
    | zero =>
      rw [if_pos (by simp)]
      show valS (sg e.1) (digE sg e (k / prodE sg (t ++ l2))) = valS (sg e.1) (digE sg e (k / prodE sg l2 / prodE sg t))
      rw [prod_app, Nat.mul_comm, Nat.div_div_eq_div_mul]
    | succ j =>
      show vE sg (t ++ l2) (k % prodE sg (t ++ l2)) j = _
      rw [ih, prod_app]
      by_cases hj : j < t.length
      · rw [if_pos hj, if_pos (show j + 1 < (e :: t).length by simp; omega)]
        show _ = vE sg t (k / prodE sg l2 % prodE sg t) j
        rw [Nat.mul_comm, Nat.mod_mul_right_div_self]
      · rw [if_neg hj, if_neg (show ¬ j + 1 < (e :: t).length by simp; omega)]
        have e1 : j + 1 - (e :: t).length = j - t.length := by simp
        rw [e1]
        congr 1
        by_cases ht : t = []
        · subst ht
          rw [if_pos rfl]
          simp [prodE]
        · rw [if_neg ht, Nat.mod_mod_of_dvd _ (Nat.dvd_mul_left _ _)]
theorem vE_deep (sg : Nat → Sg) (l : List Ent) : ∀ k j, vE sg (l.map deepE) k j = vE sg l k j := by
  induction l with
  | nil => intro k j; rfl
  | cons e t ih =>
    intro k j
    rw [List.map_cons]
    cases j with
    | zero =>
      show valS (sg e.1) (digE sg (deepE e) (k / prodE sg (t.map deepE))) = valS (sg e.1) (digE sg e (k / prodE sg t))
      rw [prod_map sg t (g := deepE) (fun _ => rfl)]
      rfl
    | succ j =>
      show vE sg (t.map deepE) (k % prodE sg (t.map deepE)) j = vE sg t (k % prodE sg t) j
      rw [prod_map sg t (g := deepE) (fun _ => rfl), ih]
theorem div_flip {c P k : Nat} (h : k < c * P) : (c * P - 1 - k) / P = c - 1 - k / P ∧ (c * P - 1 - k) % P = P - 1 - k % P := by
  have hP : 0 < P := by
    rcases Nat.eq_zero_or_pos P with q | q
    · subst q; simp at h
    · exact q
  have h1 := Nat.div_add_mod k P
  have h2 := Nat.mod_lt k hP
  have h3 : k / P < c := (Nat.div_lt_iff_lt_mul hP).mpr h
  generalize k / P = q at h1 h3 ⊢
  generalize k % P = r at h1 h2 ⊢
  have h4 : c * P - 1 - k = (P - 1 - r) + P * (c - 1 - q) := by
    have h5 : c = q + 1 + (c - 1 - q) := by omega
    generalize c - 1 - q = d at h5 ⊢
    subst h5
    rw [Nat.add_mul, Nat.add_mul, Nat.one_mul, Nat.mul_comm q P, Nat.mul_comm d P]
    omega
  rw [h4]
  constructor
  · rw [Nat.add_mul_div_left _ _ hP, Nat.div_eq_of_lt (by omega), Nat.zero_add]
  · rw [Nat.add_mul_mod_self_left, Nat.mod_eq_of_lt (by omega)]
theorem vE_flip {sg : Nat → Sg} {l : List Ent} : ∀ {k j : Nat}, k < prodE sg l → vE sg (l.map flipE) k j = vE sg l (prodE sg l - 1 - k) j := by
  induction l with
  | nil => intro k j _; rfl
  | cons e t ih =>
    intro k j hk
    rw [List.map_cons]
    have hk2 : k < cntS (sg e.1) * prodE sg t := hk
    obtain ⟨d1, d2⟩ := div_flip hk2
    have hP : 0 < prodE sg t := by
      rcases Nat.eq_zero_or_pos (prodE sg t) with q | q
      · rw [q] at hk2; simp at hk2
      · exact q
    have h3 : k / prodE sg t < cntS (sg e.1) := (Nat.div_lt_iff_lt_mul hP).mpr hk2
    cases j with
    | zero =>
      show valS (sg e.1) (digE sg (flipE e) (k / prodE sg (t.map flipE))) = valS (sg e.1) (digE sg e ((cntS (sg e.1) * prodE sg t - 1 - k) / prodE sg t))
      rw [prod_map sg t (g := flipE) (fun _ => rfl), d1]
      congr 1
      generalize k / prodE sg t = q at h3
      unfold digE flipE
      cases e.2.1 <;> simp <;> omega
    | succ j =>
      show vE sg (t.map flipE) (k % prodE sg (t.map flipE)) j = vE sg t ((cntS (sg e.1) * prodE sg t - 1 - k) % prodE sg t) j
      rw [prod_map sg t (g := flipE) (fun _ => rfl), d2, ih (Nat.mod_lt _ hP)]
theorem filG_1 {sg : Nat → Sg} {o a k : Nat} {g : Nat → Int64} : filG sg [(o, false, 0)] a k g = vp_updL g a (valS (sg o) k) := by
  funext j
  unfold filG vp_updL
  by_cases h : j = a
  · subst h
    rw [if_pos ⟨Nat.le_refl _, by simp⟩, if_pos rfl, Nat.sub_self]
    show valS (sg o) (digE sg (o, false, 0) (k / 1)) = _
    rw [Nat.div_one]
    rfl
  · rw [if_neg (by simp; omega), if_neg h]
theorem filG_flip {sg : Nat → Sg} {l : List Ent} {a k : Nat} {g : Nat → Int64} (hk : k < prodE sg l) : filG sg (l.map flipE) a k g = filG sg l a (prodE sg l - 1 - k) g := by
  funext j
  unfold filG
  rw [List.length_map, vE_flip hk]
theorem filG_deep {sg : Nat → Sg} {l : List Ent} {a k : Nat} {g : Nat → Int64} : filG sg (l.map deepE) a k g = filG sg l a k g := by
  funext j
  unfold filG
  rw [List.length_map, vE_deep]
theorem filG_nil {sg : Nat → Sg} {a k : Nat} {g : Nat → Int64} : filG sg [] a k g = g := by
  funext j
  unfold filG
  rw [if_neg (by simp)]
theorem filG_app {sg : Nat → Sg} {l1 l2 : List Ent} {a k : Nat} {g : Nat → Int64} (hne : l1 ≠ []) : filG sg (l1 ++ l2) a (k % (prodE sg l1 * prodE sg l2)) g = filG sg l1 a (k / prodE sg l2 % prodE sg l1) (filG sg l2 (a + l1.length) (k % prodE sg l2) g) := by
  funext j
  unfold filG
  rw [List.length_append]
  by_cases h1 : a ≤ j ∧ j < a + l1.length
  · rw [if_pos ⟨h1.1, by omega⟩, if_pos h1, vE_app, if_pos (by omega), Nat.mul_comm, Nat.mod_mul_right_div_self]
  · rw [if_neg h1]
    by_cases h2 : a + l1.length ≤ j ∧ j < a + l1.length + l2.length
    · rw [if_pos ⟨by omega, by omega⟩, if_pos h2, vE_app, if_neg (by omega), if_neg hne, Nat.mod_mod_of_dvd _ (Nat.dvd_mul_left _ _)]
      congr 1
      omega
    · rw [if_neg (by omega), if_neg h2]
def FIk (l : Launch) (D : va_G) (B : Nat) (K : Nat → ClassId) (sg : Nat → Sg) (E : Nat → List Ent) (ra : Nat → Nat) (fi : St) (i : Nat) : Prop :=
  ∀ (f : St) (hh ha a k : Nat) (h : Nat → Int64), Imm fi f → fi ha = none → f hh = some (.inr (2, [.ref ha])) → hh ≠ ha → f ha = some (.inl (K 1, 8, .inr (.inl h))) → a + (E i).length ≤ 8 → k < prodE sg (E i) → k < 9223372036854775808 →
    (((∃ fs, fi (ra i) = some (.inr (5, fs))) ∨ ∃ fs, fi (ra i) = some (.inr (4, fs))) → Kc l D B K yX7_fill cX7_fill 5 none (i + 2) 0 0 [.ref (ra i), .ref hh, .int (nI a), .long (lN k)] f (Qv_ D B (fun f9 => f9 = va_up f ha (some (.inl (K 1, 8, .inr (.inl (filG sg (E i) a k h)))))))) ∧
    ((∃ fs, fi (ra i) = some (.inr (0, fs))) → Kc l D B K yX0_fill cX0_fill 5 none (i + 2) 0 0 [.ref (ra i), .ref hh, .int (nI a), .long (lN k)] f (Qv_ D B (fun f9 => f9 = va_up f ha (some (.inl (K 1, 8, .inr (.inl (filG sg (E i) a k h)))))))) ∧
    ((∃ fs, fi (ra i) = some (.inr (1, fs))) → Kc l D B K yX1_fill cX1_fill 11 none (i + 2) 0 0 [.ref (ra i), .ref hh, .int (nI a), .long (lN k)] f (Qv_ D B (fun f9 => f9 = va_up f ha (some (.inl (K 1, 8, .inr (.inl (filG sg (E i) a k h))))))))
section VF
variable {p : Program} {l : Launch} {e : Env} {R : Room} {s : State} {m : MethodId} {args : Array Value} {below : List Frame} {meth : Method} {c : Code} {D : va_G} {B nL : Nat} {Q : State → Prop} {ce sl : Nat} {f : St} {lv : Lv} {pc : Nat} {st : List Value} {cc : ByteArray} {own : String} {K : Nat → ClassId}
theorem v_fill (C : Cx p s m args c cc nL own D B K) {sg : Nat → Sg} {E : Nat → List Ent} {ra : Nat → Nat} {kd : Nat → Int32} {fi : St} {i index hh ha a k9 : Nat} {h : Nat → Int64} {rest : List Value} (hd : decode cc pc = .ok (.invokevirtual index, 3)) (hT : RTi K sg E ra kd fi i) (hP : FIk l D B K sg E ra fi i) (hI : Imm fi f) (hn : fi ha = none) (hH : f hh = some (.inr (2, [.ref ha]))) (hne : hh ≠ ha) (hA : f ha = some (.inl (K 1, 8, .inr (.inl h)))) (hw9 : a + (E i).length ≤ 8) (hk : k9 < prodE sg (E i)) (hk2 : k9 < 9223372036854775808)
    (g1 : Cond.methodLink own index xR_fill ∈ GT) (hR : RN R (i + 2 + 1)) (hst : st = [Value.long (lN k9), .int (nI a), .ref hh, .ref (ra i)] ++ rest) (hrest : (rest.map fun v => v.category).sum ≤ 8) (hf : ce ≤ R.cells ∧ sl ≤ R.slots)
    (k : V p l e R s m args below meth c D B nL Q ce sl (va_up f ha (some (.inl (K 1, 8, .inr (.inl (filG sg (E i) a k9 h)))))) lv (pc + 3) rest) : V p l e R s m args below meth c D B nL Q ce sl f lv pc st := by
  obtain ⟨h7, h0, h1⟩ := hP f hh ha a k9 h hI hn hH hne hA hw9 hk hk2
  have hst2 : st = ([Value.ref hh, .int (nI a), .long (lN k9)] : List Value).reverse ++ .ref (ra i) :: rest := hst
  rcases hT with ⟨⟨fst, lst, sp, q1, _⟩ | ⟨ar, fs, q1, _⟩, hE⟩ | ⟨j, _, q1, _, hE⟩ | ⟨js, pa, g, _, _, q1, _⟩
  · exact v_cv (r_A (x := xR_fill) (owner := RX5) C (h7 (Or.inl ⟨_, q1⟩)) hd (hI _ _ q1) rfl g1 g_sm_X5_X5_fill g_se_X6_X5_fill_66fc_yX7_fill g_im_yX7_fill g_in_X7 g_cd_yX7_fill (by decide +kernel) hR (by decide) hst2 hdn_xR_fill hrest hf) (fun f9 hp => by subst hp; exact k)
  · exact v_cv (r_A (x := xR_fill) (owner := RX5) C (h7 (Or.inr ⟨_, q1⟩)) hd (hI _ _ q1) rfl g1 g_sm_X5_X5_fill g_se_X4_X5_fill_66fc_yX7_fill g_im_yX7_fill g_in_X7 g_cd_yX7_fill (by decide +kernel) hR (by decide) hst2 hdn_xR_fill hrest hf) (fun f9 hp => by subst hp; exact k)
  · exact v_cv (r_A (x := xR_fill) (owner := RX5) C (h0 ⟨_, q1⟩) hd (hI _ _ q1) rfl g1 g_sm_X5_X5_fill g_se_X0_X5_fill_66fc_yX0_fill g_im_yX0_fill g_in_X0 g_cd_yX0_fill (by decide +kernel) hR (by decide) hst2 hdn_xR_fill hrest hf) (fun f9 hp => by subst hp; exact k)
  · exact v_cv (r_A (x := xR_fill) (owner := RX5) C (h1 ⟨_, q1⟩) hd (hI _ _ q1) rfl g1 g_sm_X5_X5_fill g_se_X1_X5_fill_66fc_yX1_fill g_im_yX1_fill g_in_X1 g_cd_yX1_fill (by decide +kernel) hR (by decide) hst2 hdn_xR_fill hrest hf) (fun f9 hp => by subst hp; exact k)
end VF
end
section
/-! fill: all kinds of ranges -/
set_option maxHeartbeats 4000000 in
set_option maxRecDepth 100000 in
theorem c_Single_fill_X6 (l : Launch) (D : va_G) (B : Nat) (K : Nat → ClassId) (f : St) (sg : Nat → Sg) (E : Nat → List Ent) (ra : Nat → Nat) (kd : Nat → Int32) (fi : St) (i hh ha a k : Nat) (h : Nat → Int64) (fst lst : Int64) (sp : Int32) (hrow : rowOK (sg i) fst lst sp) (hok : ∀ o, okS (sg o)) (hI : Imm fi f) (hn : fi ha = none) (hH : f hh = some (.inr (2, [.ref ha]))) (hne : hh ≠ ha) (hA : f ha = some (.inl (K 1, 8, .inr (.inl h)))) (hw9 : a + (E i).length ≤ 8) (hk : k < prodE sg (E i)) (hk2 : k < 9223372036854775808) (hq : fi (ra i) = some (.inr (5, [.int (nI i), .int (kd i), .int 1, .long (sat (cntS (sg i))), .long fst, .long lst, .int sp]))) (hE : E i = [(i, false, 0)]) : Kc l D B K yX7_fill cX7_fill 5 none (i + 2) 0 0 [.ref (ra i), .ref hh, .int (nI a), .long (lN k)] f (Qv_ D B (fun f9 => f9 = va_up f ha (some (.inl (K 1, 8, .inr (.inl (filG sg (E i) a k h))))))) := by
  refine v_met [(0, .ref (ra i)), (1, .ref hh), (2, .int (nI a)), (3, .long (lN k))] (by decide) (Nat.le_of_ble_eq_true rfl) rfl ?_
  intro p e s m args below meth c C hr hlk hin
  have h0 := hI _ _ hq
  have ha8 : a < 8 := by rw [hE] at hw9; exact Nat.lt_of_succ_le hw9
  have hk3 : k < cntS (sg i) := by rw [hE, prod_1] at hk; exact hk
  refine v_aload_n C dX7_fill_0 rfl rfl ?_
  refine v_iload_n C dX7_fill_1 rfl rfl ?_
  refine v_aload_n C dX7_fill_2 rfl rfl ?_
  refine v_lload_n C dX7_fill_3 rfl rfl ?_
  refine v_cl (r_A (x := xS_valueAt) (owner := RX7) C (c_Row_valueAt l D B K _ (ra i) _ _ _ _ _ _ _ h0) dX7_fill_4 h0 rfl g_ml_X7_33 g_sm_X7_X7_valueAt g_se_X6_X7_valueAt_467d_yX6_valueAt g_im_yX6_valueAt g_in_X6 g_cd_yX6_valueAt (by decide +kernel) (rn_le (by omega)) (by decide) rfl hdn_xS_valueAt (Nat.le_of_ble_eq_true rfl) ⟨Nat.le_of_ble_eq_true rfl, Nat.le_of_ble_eq_true rfl⟩) (fun r_4 f_4 hp_4 => ?_)
  obtain ⟨rfl, rfl⟩ := hp_4
  refine v_rl (rv_eq hrow _ k) ?_
  refine v_cv (r_V C (c_take l D B K _ hh ha h (nI a) _ hH hA) dX7_fill_7 hH rfl g_ml_X7_36 g_im_yX2_take g_se_X2_yX2_take_yX2_take g_in_X2 g_cd_yX2_take (rn_le (by omega)) (by decide) rfl rfl hdn_yX2_take (Nat.le_of_ble_eq_true rfl) ⟨Nat.le_of_ble_eq_true rfl, Nat.le_of_ble_eq_true rfl⟩) (fun f_7 hp_7 => ?_)
  rw [if_neg (nI_pos (by omega)), if_neg (show ¬ (8 : Int32) ≤ nI a from nI_ge (b := 8) ha8 (by omega)), nI_clamp (by omega)] at hp_7
  subst hp_7
  exact v_vret C hr hlk dX7_fill_10 (Nat.le_refl _) (Nat.le_refl _) (by rw [hE, filG_1])

set_option maxHeartbeats 4000000 in
set_option maxRecDepth 100000 in
theorem c_Single_fill_X4 (l : Launch) (D : va_G) (B : Nat) (K : Nat → ClassId) (f : St) (sg : Nat → Sg) (E : Nat → List Ent) (ra : Nat → Nat) (kd : Nat → Int32) (fi : St) (i hh ha a k : Nat) (h : Nat → Int64) (ar fs : Int32) (hrow : namesOK (sg i) ar fs) (hok : ∀ o, okS (sg o)) (hI : Imm fi f) (hn : fi ha = none) (hH : f hh = some (.inr (2, [.ref ha]))) (hne : hh ≠ ha) (hA : f ha = some (.inl (K 1, 8, .inr (.inl h)))) (hw9 : a + (E i).length ≤ 8) (hk : k < prodE sg (E i)) (hk2 : k < 9223372036854775808) (hq : fi (ra i) = some (.inr (4, [.int (nI i), .int (kd i), .int 1, .long (sat (cntS (sg i))), .int ar, .int fs]))) (hE : E i = [(i, false, 0)]) : Kc l D B K yX7_fill cX7_fill 5 none (i + 2) 0 0 [.ref (ra i), .ref hh, .int (nI a), .long (lN k)] f (Qv_ D B (fun f9 => f9 = va_up f ha (some (.inl (K 1, 8, .inr (.inl (filG sg (E i) a k h))))))) := by
  refine v_met [(0, .ref (ra i)), (1, .ref hh), (2, .int (nI a)), (3, .long (lN k))] (by decide) (Nat.le_of_ble_eq_true rfl) rfl ?_
  intro p e s m args below meth c C hr hlk hin
  have h0 := hI _ _ hq
  have ha8 : a < 8 := by rw [hE] at hw9; exact Nat.lt_of_succ_le hw9
  have hk3 : k < cntS (sg i) := by rw [hE, prod_1] at hk; exact hk
  refine v_aload_n C dX7_fill_0 rfl rfl ?_
  refine v_iload_n C dX7_fill_1 rfl rfl ?_
  refine v_aload_n C dX7_fill_2 rfl rfl ?_
  refine v_lload_n C dX7_fill_3 rfl rfl ?_
  refine v_cl (r_A (x := xS_valueAt) (owner := RX7) C (c_Names_valueAt l D B K _ (ra i) _ _ _ _ _ _ h0) dX7_fill_4 h0 rfl g_ml_X7_33 g_sm_X7_X7_valueAt g_se_X4_X7_valueAt_467d_yX4_valueAt g_im_yX4_valueAt g_in_X4 g_cd_yX4_valueAt (by decide +kernel) (rn_le (by omega)) (by decide) rfl hdn_xS_valueAt (Nat.le_of_ble_eq_true rfl) ⟨Nat.le_of_ble_eq_true rfl, Nat.le_of_ble_eq_true rfl⟩) (fun r_4 f_4 hp_4 => ?_)
  obtain ⟨rfl, rfl⟩ := hp_4
  refine v_rl (nv_eq (hok i) hrow _ hk3) ?_
  refine v_cv (r_V C (c_take l D B K _ hh ha h (nI a) _ hH hA) dX7_fill_7 hH rfl g_ml_X7_36 g_im_yX2_take g_se_X2_yX2_take_yX2_take g_in_X2 g_cd_yX2_take (rn_le (by omega)) (by decide) rfl rfl hdn_yX2_take (Nat.le_of_ble_eq_true rfl) ⟨Nat.le_of_ble_eq_true rfl, Nat.le_of_ble_eq_true rfl⟩) (fun f_7 hp_7 => ?_)
  rw [if_neg (nI_pos (by omega)), if_neg (show ¬ (8 : Int32) ≤ nI a from nI_ge (b := 8) ha8 (by omega)), nI_clamp (by omega)] at hp_7
  subst hp_7
  exact v_vret C hr hlk dX7_fill_10 (Nat.le_refl _) (Nat.le_refl _) (by rw [hE, filG_1])

theorem back_fill {N k : Nat} (hN : N < 9223372036854775808) (h : k < N) : sat N - 1 - lN k = lN (N - 1 - k) := by
  rw [sat_lt hN, show (1 : Int64) = lN 1 from rfl, lN_sub (by omega), lN_sub (by omega)]
set_option maxHeartbeats 4000000 in
set_option maxRecDepth 100000 in
theorem c_Back_fill (l : Launch) (D : va_G) (B : Nat) (K : Nat → ClassId) (f : St) (sg : Nat → Sg) (E : Nat → List Ent) (ra : Nat → Nat) (kd : Nat → Int32) (fi : St) (i hh ha a k : Nat) (h : Nat → Int64) (j : Nat) (hok : ∀ o, okS (sg o)) (hI : Imm fi f) (hn : fi ha = none) (hH : f hh = some (.inr (2, [.ref ha]))) (hne : hh ≠ ha) (hA : f ha = some (.inl (K 1, 8, .inr (.inl h)))) (hw9 : a + (E i).length ≤ 8) (hk : k < prodE sg (E i)) (hk2 : k < 9223372036854775808) (hq : fi (ra i) = some (.inr (0, [.int (nI i), .int (kd i), .int (nI (E j).length), .long (sat (prodE sg (E j))), .ref (ra j)]))) (hji : j < i) (hz : prodE sg (E j) < 9223372036854775808) (hE : E i = (E j).map flipE) (hTj : RTi K sg E ra kd fi j) (hPj : FIk l D B K sg E ra fi j) : Kc l D B K yX0_fill cX0_fill 5 none (i + 2) 0 0 [.ref (ra i), .ref hh, .int (nI a), .long (lN k)] f (Qv_ D B (fun f9 => f9 = va_up f ha (some (.inl (K 1, 8, .inr (.inl (filG sg (E i) a k h))))))) := by
  refine v_met [(0, .ref (ra i)), (1, .ref hh), (2, .int (nI a)), (3, .long (lN k))] (by decide) (Nat.le_of_ble_eq_true rfl) rfl ?_
  intro p e s m args below meth c C hr hlk hin
  have h0 := hI _ _ hq
  have hkj : k < prodE sg (E j) := by rw [hE, prod_map sg _ (g := flipE) (fun _ => rfl)] at hk; exact hk
  refine v_aload_n C dX0_fill_0 rfl rfl ?_
  refine v_get C dX0_fill_1 4 h0 rfl in_X0 (by decide) g_fl_X0_17 (fun _ h9 => h9) rfl ?_
  refine v_aload_n C dX0_fill_4 rfl rfl ?_
  refine v_iload_n C dX0_fill_5 rfl rfl ?_
  refine v_aload_n C dX0_fill_6 rfl rfl ?_
  refine v_get C dX0_fill_7 3 h0 rfl in_X0 (by decide) g_fl_X0_29 (fun x9 h9 => u_same (C.2.2.2.2.1 _ g_sf_X0_size) x9 h9) rfl ?_
  refine v_lconst (v := 1) C dX0_fill_10 (by decide) ?_
  refine v_lsub C dX0_fill_11 ?_
  refine v_lload_n C dX0_fill_12 rfl rfl ?_
  refine v_lsub C dX0_fill_13 ?_
  refine v_rl (back_fill hz hkj) ?_
  refine v_fill (i := j) (a := a) (k9 := prodE sg (E j) - 1 - k) C dX0_fill_14 hTj hPj hI hn hH hne hA (by rw [hE, List.length_map] at hw9; exact hw9) (by omega) (by omega) g_ml_X0_30 (rn_le (by omega)) rfl (Nat.le_of_ble_eq_true rfl) ⟨Nat.le_refl _, Nat.le_refl _⟩ ?_
  exact v_vret C hr hlk dX0_fill_17 (Nat.le_refl _) (Nat.le_refl _) (by rw [hE, filG_flip hkj])

theorem drop_fm {js : List Nat} {u j : Nat} (E : Nat → List Ent) (hj : js[u]? = some j) : (js.drop u).flatMap E = E j ++ (js.drop (u + 1)).flatMap E := by
  have hlt := (List.getElem?_eq_some_iff.mp hj).1
  have hje := (List.getElem?_eq_some_iff.mp hj).2
  rw [List.drop_eq_getElem_cons hlt, hje, List.flatMap_cons]
theorem fil_step {sg : Nat → Sg} {E : Nat → List Ent} {js : List Nat} {u j a k : Nat} {h : Nat → Int64} (hj : js[u]? = some j) (h1 : 1 ≤ (E j).length) : filG sg (E j) (a + ((js.take u).flatMap E).length) (k / prodE sg ((js.drop (u + 1)).flatMap E) % prodE sg (E j)) (filG sg ((js.drop (u + 1)).flatMap E) (a + ((js.take (u + 1)).flatMap E).length) (k % prodE sg ((js.drop (u + 1)).flatMap E)) h) = filG sg ((js.drop u).flatMap E) (a + ((js.take u).flatMap E).length) (k % prodE sg ((js.drop u).flatMap E)) h := by
  rw [drop_fm E hj, prod_app, filG_app (by intro h9; rw [h9] at h1; simp at h1), take_fm E hj, List.length_append, Nat.add_assoc]
theorem fil_div {sg : Nat → Sg} {E : Nat → List Ent} {js : List Nat} {u j k : Nat} (hj : js[u]? = some j) : k / prodE sg ((js.drop (u + 1)).flatMap E) / prodE sg (E j) = k / prodE sg ((js.drop u).flatMap E) := by
  rw [drop_fm E hj, prod_app, Nat.div_div_eq_div_mul, Nat.mul_comm]
theorem fil_wide {E : Nat → List Ent} {js : List Nat} {u j a : Nat} (hj : js[u]? = some j) : nI (a + ((js.take (u + 1)).flatMap E).length) - nI (E j).length = nI (a + ((js.take u).flatMap E).length) := by
  rw [take_fm E hj, List.length_append, pk_sub (by omega)]
  congr 1
  omega
theorem fil_pos {sg : Nat → Sg} {E : Nat → List Ent} {js : List Nat} {u j k : Nat} (hj : js[u]? = some j) (hk : k < prodE sg (js.flatMap E)) : 0 < prodE sg (E j) := by
  rw [split_fm E hj, prod_app, prod_app] at hk
  rcases Nat.eq_zero_or_pos (prodE sg (E j)) with q | q
  · rw [q] at hk; simp at hk
  · exact q
theorem sat_pos {n : Nat} (h : 0 < n) (h2 : n < 9223372036854775808) : ¬ sat n ≤ 0 := by
  rw [sat_lt h2]
  intro h9
  have := (pk_lLE (b := 0) h2 (by omega)).mp h9
  omega
set_option maxHeartbeats 4000000 in
set_option maxRecDepth 100000 in
theorem L_Beside_fill {p : Program} {l : Launch} {e : Env} {s : State} {m : MethodId} {args : Array Value} {below : List Frame} {meth : Method} {c : Code} {D : va_G} {B : Nat} {K : Nat → ClassId} (C : Cx p s m args c cX1_fill 11 yX1_fill.cls D B K) (hr : meth.sig.returnType = none) (hlk : meth.locks = false) (f : St) (sg : Nat → Sg) (E : Nat → List Ent) (ra : Nat → Nat) (kd : Nat → Int32) (fi : St) (i hh ha a k : Nat) (h : Nat → Int64) (hok : ∀ o, okS (sg o)) (hI : Imm fi f) (hn : fi ha = none) (hH : f hh = some (.inr (2, [.ref ha]))) (hne : hh ≠ ha) (hA : f ha = some (.inl (K 1, 8, .inr (.inl h)))) (hw9 : a + (E i).length ≤ 8) (hk : k < prodE sg (E i)) (hk2 : k < 9223372036854775808) (js : List Nat) (pa : Nat) (g : Nat → Option Nat) (hq : fi (ra i) = some (.inr (1, [.int (nI i), .int (kd i), .int (nI (E i).length), .long (sat (prodE sg (E i))), .ref pa]))) (hpa : fi pa = some (.inl (K 3, js.length, .inr (.inr (.inr (.inr g)))))) (h3 : js.length ≤ 3) (hg : ∀ t j, js[t]? = some j → g t = some (ra j)) (hE : E i = (js.flatMap E).map deepE) (hjs : ∀ j ∈ js, j < i ∧ RTi K sg E ra kd fi j ∧ FIk l D B K sg E ra fi j ∧ 1 ≤ (E j).length) : ∀ (tt : Nat), tt ≤ js.length → V p l e (RM (i + 2) 0 0) s m args below meth c D B 11 (MQ below (Qv_ D B (fun f9 => f9 = va_up f ha (some (.inl (K 1, 8, .inr (.inl (filG sg (E i) a k h))))))) args s 0 0 (AB B)) 0 0 (va_up f ha (some (.inl (K 1, 8, .inr (.inl (filG sg ((js.drop tt).flatMap E) (a + ((js.take tt).flatMap E).length) (k % prodE sg ((js.drop tt).flatMap E)) h)))))) (lof [(0, .ref (ra i)), (1, .ref hh), (5, .long (lN (k / prodE sg ((js.drop tt).flatMap E)))), (7, .int (nI (a + ((js.take tt).flatMap E).length))), (8, .int (nI tt - 1))]) 20 [] := by
  have hkk : k < prodE sg (js.flatMap E) := by rw [hE, prod_map sg _ (g := deepE) (fun _ => rfl)] at hk; exact hk
  intro tt
  induction tt with
  | zero =>
    intro _
    rw [show nI 0 - 1 = (-1 : Int32) by decide]
    refine v_iload C dX1_fill_20 rfl ?_
    refine v_if_lt (tgt := 112) C dX1_fill_22 (by decide) (fun c_22 => ?_) (fun c_22 => absurd (by decide) c_22)
    exact v_vret C hr hlk dX1_fill_112 (Nat.le_refl _) (Nat.le_refl _) (by rw [hE, filG_deep]; simp only [List.drop_zero, List.take_zero, List.flatMap_nil, List.length_nil, Nat.add_zero]; rw [Nat.mod_eq_of_lt hkk])
  | succ u ih =>
    intro hlt
    rw [nI_pred]
    obtain ⟨j, hj⟩ : ∃ j, js[u]? = some j := ⟨_, List.getElem?_eq_getElem hlt⟩
    obtain ⟨hji, hTj, hPj, h1j⟩ := hjs j (List.mem_of_getElem? hj)
    obtain ⟨ci, fs, hci, hcell, hf0, hf1, hf2, hf3⟩ := RT_hdr hTj
    have hN0 := fil_pos hj hkk
    have hrest : k / prodE sg ((js.drop (u + 1)).flatMap E) < 9223372036854775808 := Nat.lt_of_le_of_lt (Nat.div_le_self _ _) hk2
    have hI2 := hI.up (y := (some (.inl (K 1, 8, .inr (.inl (filG sg ((js.drop (u + 1)).flatMap E) (a + ((js.take (u + 1)).flatMap E).length) (k % prodE sg ((js.drop (u + 1)).flatMap E)) h)))))) hn
    have hH2 : va_up f ha (some (.inl (K 1, 8, .inr (.inl (filG sg ((js.drop (u + 1)).flatMap E) (a + ((js.take (u + 1)).flatMap E).length) (k % prodE sg ((js.drop (u + 1)).flatMap E)) h))))) hh = some (.inr (2, [.ref ha])) := by rw [va_up_ne _ _ hne]; exact hH
    have hA2 : va_up f ha (some (.inl (K 1, 8, .inr (.inl (filG sg ((js.drop (u + 1)).flatMap E) (a + ((js.take (u + 1)).flatMap E).length) (k % prodE sg ((js.drop (u + 1)).flatMap E)) h))))) ha = some (.inl (K 1, 8, .inr (.inl (filG sg ((js.drop (u + 1)).flatMap E) (a + ((js.take (u + 1)).flatMap E).length) (k % prodE sg ((js.drop (u + 1)).flatMap E)) h)))) := va_up_self _ _ _
    refine v_iload C dX1_fill_20 rfl ?_
    refine v_if_lt (tgt := 112) C dX1_fill_22 (by decide) (fun c_22 => absurd c_22 (nI_pos (by omega))) (fun c_22 => ?_)
    refine v_aload_n C dX1_fill_25 rfl rfl ?_
    refine v_get C dX1_fill_26 4 (hI2 _ _ hq) rfl in_X1 (by decide) g_fl_X1_9 (fun _ h9 => h9) rfl ?_
    refine v_iload C dX1_fill_29 rfl ?_
    refine v_aldq C dX1_fill_31 (hI2 _ _ hpa) (vp_in_nI hlt (by omega)) ?_
    refine v_rq (by rw [nI_clamp (by omega)]; exact hg u j hj) ?_
    refine v_astore C dX1_fill_32 (by decide) rfl ?_
    refine v_iload C dX1_fill_34 rfl ?_
    refine v_aload C dX1_fill_36 rfl ?_
    refine v_getR C dX1_fill_38 2 (by decide) hci (hI2 _ _ hcell) g_fl_X1_32 hf2 ?_
    refine v_isub C dX1_fill_41 ?_
    refine v_ri (fil_wide hj) ?_
    refine v_istore C dX1_fill_42 (by decide) rfl ?_
    by_cases hN : prodE sg (E j) < 9223372036854775808
    · refine v_aload C dX1_fill_44 rfl ?_
      refine v_getR C dX1_fill_46 3 (by decide) hci (hI2 _ _ hcell) g_fl_X1_21 hf3 ?_
      refine v_lconst (v := 0) C dX1_fill_49 (by decide) ?_
      refine v_lc_le (tgt := 58) C dX1_fill_50 dX1_fill_51 (by decide) (fun c_50 => absurd c_50 (sat_pos hN0 hN)) (fun c_50 => ?_)
      refine v_iconst (v := 1) C dX1_fill_54 (by decide) ?_
      refine v_goto (tgt := 59) C dX1_fill_55 (by decide) ?_
      refine v_istore C dX1_fill_59 (by decide) rfl ?_
      refine v_aload C dX1_fill_61 rfl ?_
      refine v_aload_n C dX1_fill_63 rfl rfl ?_
      refine v_iload C dX1_fill_64 rfl ?_
      refine v_iload C dX1_fill_66 rfl ?_
      refine v_if_eq (tgt := 82) C dX1_fill_68 (by decide) (fun c_68 => absurd c_68 (by decide)) (fun _ => ?_)
      refine v_lload C dX1_fill_71 rfl ?_
      refine v_aload C dX1_fill_73 rfl ?_
      refine v_getR C dX1_fill_75 3 (by decide) hci (hI2 _ _ hcell) g_fl_X1_21 hf3 ?_
      refine v_rl (sat_lt hN) ?_
      refine v_lrem C dX1_fill_78 (fun h9 => by have h8 := (pk_lEQ (b := 0) hN (by omega)).mp h9; omega) ?_
      refine v_rl (pk_lRem hrest hN0 hN) ?_
      refine v_goto (tgt := 84) C dX1_fill_79 (by decide) ?_
      refine v_fill (i := j) (a := a + ((js.take u).flatMap E).length) (k9 := k / prodE sg ((js.drop (u + 1)).flatMap E) % prodE sg (E j)) C dX1_fill_84 hTj hPj hI2 hn hH2 hne hA2 (by have h9 := fm_len E hj; rw [hE, List.length_map] at hw9; omega) (Nat.mod_lt _ hN0) (Nat.lt_of_le_of_lt (Nat.mod_le _ _) hrest) g_ml_X1_37 (rn_le (by omega)) rfl (Nat.le_of_ble_eq_true rfl) ⟨Nat.le_refl _, Nat.le_refl _⟩ ?_
      have hI3 := hI2.up (y := (some (.inl (K 1, 8, .inr (.inl (filG sg (E j) (a + ((js.take u).flatMap E).length) (k / prodE sg ((js.drop (u + 1)).flatMap E) % prodE sg (E j)) (filG sg ((js.drop (u + 1)).flatMap E) (a + ((js.take (u + 1)).flatMap E).length) (k % prodE sg ((js.drop (u + 1)).flatMap E)) h))))))) hn
      refine v_iload C dX1_fill_87 rfl ?_
      refine v_if_eq (tgt := 103) C dX1_fill_89 (by decide) (fun c_89 => absurd c_89 (by decide)) (fun _ => ?_)
      refine v_lload C dX1_fill_92 rfl ?_
      refine v_aload C dX1_fill_94 rfl ?_
      refine v_getR C dX1_fill_96 3 (by decide) hci (hI3 _ _ hcell) g_fl_X1_21 hf3 ?_
      refine v_rl (sat_lt hN) ?_
      refine v_ldiv C dX1_fill_99 (fun h9 => by have h8 := (pk_lEQ (b := 0) hN (by omega)).mp h9; omega) ?_
      refine v_rl (pk_lDiv hrest hN0 hN) ?_
      refine v_rl (congrArg lN (fil_div hj)) ?_
      refine v_goto (tgt := 104) C dX1_fill_100 (by decide) ?_
      refine v_lstore C dX1_fill_104 (by decide) rfl ?_
      refine v_iinc (y := (-1)) C dX1_fill_106 rfl (by decide) (by decide) rfl ?_
      refine v_goto (tgt := 20) C dX1_fill_109 (by decide) ?_
      refine v_loc [(0, .ref (ra i)), (1, .ref hh), (5, .long (lN (k / prodE sg ((js.drop u).flatMap E)))), (7, .int (nI (a + ((js.take u).flatMap E).length))), (8, .int (nI u - 1))] (lsub_c rfl (lsub_c rfl (lsub_c rfl (lsub_c rfl (lsub_c (by rw [Int32.sub_eq_add_neg]; rfl) lsub_n))))) ?_
      rw [bx_uu, fil_step hj h1j]
      exact ih (by omega)
    · refine v_aload C dX1_fill_44 rfl ?_
      refine v_getR C dX1_fill_46 3 (by decide) hci (hI2 _ _ hcell) g_fl_X1_21 hf3 ?_
      refine v_lconst (v := 0) C dX1_fill_49 (by decide) ?_
      refine v_lc_le (tgt := 58) C dX1_fill_50 dX1_fill_51 (by decide) (fun c_50 => ?_) (fun c_50 => absurd (show sat (prodE sg (E j)) ≤ 0 by rw [sat_ge (by omega)]; decide) c_50)
      refine v_iconst (v := 0) C dX1_fill_58 (by decide) ?_
      refine v_istore C dX1_fill_59 (by decide) rfl ?_
      refine v_aload C dX1_fill_61 rfl ?_
      refine v_aload_n C dX1_fill_63 rfl rfl ?_
      refine v_iload C dX1_fill_64 rfl ?_
      refine v_iload C dX1_fill_66 rfl ?_
      refine v_if_eq (tgt := 82) C dX1_fill_68 (by decide) (fun _ => ?_) (fun c_68 => absurd c_68 (by decide))
      refine v_lload C dX1_fill_82 rfl ?_
      refine v_rl (show lN (k / prodE sg ((js.drop (u + 1)).flatMap E)) = lN (k / prodE sg ((js.drop (u + 1)).flatMap E) % prodE sg (E j)) by rw [Nat.mod_eq_of_lt (by omega)]) ?_
      refine v_fill (i := j) (a := a + ((js.take u).flatMap E).length) (k9 := k / prodE sg ((js.drop (u + 1)).flatMap E) % prodE sg (E j)) C dX1_fill_84 hTj hPj hI2 hn hH2 hne hA2 (by have h9 := fm_len E hj; rw [hE, List.length_map] at hw9; omega) (Nat.mod_lt _ hN0) (Nat.lt_of_le_of_lt (Nat.mod_le _ _) hrest) g_ml_X1_37 (rn_le (by omega)) rfl (Nat.le_of_ble_eq_true rfl) ⟨Nat.le_refl _, Nat.le_refl _⟩ ?_
      refine v_iload C dX1_fill_87 rfl ?_
      refine v_if_eq (tgt := 103) C dX1_fill_89 (by decide) (fun _ => ?_) (fun c_89 => absurd c_89 (by decide))
      refine v_lconst (v := 0) C dX1_fill_103 (by decide) ?_
      refine v_rl (show (0 : Int64) = lN (k / prodE sg ((js.drop (u + 1)).flatMap E) / prodE sg (E j)) by rw [Nat.div_eq_of_lt (by omega)]; rfl) ?_
      refine v_rl (congrArg lN (fil_div hj)) ?_
      refine v_lstore C dX1_fill_104 (by decide) rfl ?_
      refine v_iinc (y := (-1)) C dX1_fill_106 rfl (by decide) (by decide) rfl ?_
      refine v_goto (tgt := 20) C dX1_fill_109 (by decide) ?_
      refine v_loc [(0, .ref (ra i)), (1, .ref hh), (5, .long (lN (k / prodE sg ((js.drop u).flatMap E)))), (7, .int (nI (a + ((js.take u).flatMap E).length))), (8, .int (nI u - 1))] (lsub_c rfl (lsub_c rfl (lsub_c rfl (lsub_c rfl (lsub_c (by rw [Int32.sub_eq_add_neg]; rfl) lsub_n))))) ?_
      rw [bx_uu, fil_step hj h1j]
      exact ih (by omega)

set_option maxHeartbeats 4000000 in
set_option maxRecDepth 100000 in
theorem c_Beside_fill (l : Launch) (D : va_G) (B : Nat) (K : Nat → ClassId) (f : St) (sg : Nat → Sg) (E : Nat → List Ent) (ra : Nat → Nat) (kd : Nat → Int32) (fi : St) (i hh ha a k : Nat) (h : Nat → Int64) (hok : ∀ o, okS (sg o)) (hI : Imm fi f) (hn : fi ha = none) (hH : f hh = some (.inr (2, [.ref ha]))) (hne : hh ≠ ha) (hA : f ha = some (.inl (K 1, 8, .inr (.inl h)))) (hw9 : a + (E i).length ≤ 8) (hk : k < prodE sg (E i)) (hk2 : k < 9223372036854775808) (js : List Nat) (pa : Nat) (g : Nat → Option Nat) (hq : fi (ra i) = some (.inr (1, [.int (nI i), .int (kd i), .int (nI (E i).length), .long (sat (prodE sg (E i))), .ref pa]))) (hpa : fi pa = some (.inl (K 3, js.length, .inr (.inr (.inr (.inr g)))))) (h3 : js.length ≤ 3) (hg : ∀ t j, js[t]? = some j → g t = some (ra j)) (hE : E i = (js.flatMap E).map deepE) (hjs : ∀ j ∈ js, j < i ∧ RTi K sg E ra kd fi j ∧ FIk l D B K sg E ra fi j ∧ 1 ≤ (E j).length) : Kc l D B K yX1_fill cX1_fill 11 none (i + 2) 0 0 [.ref (ra i), .ref hh, .int (nI a), .long (lN k)] f (Qv_ D B (fun f9 => f9 = va_up f ha (some (.inl (K 1, 8, .inr (.inl (filG sg (E i) a k h))))))) := by
  refine v_met [(0, .ref (ra i)), (1, .ref hh), (2, .int (nI a)), (3, .long (lN k))] (by decide) (Nat.le_of_ble_eq_true rfl) rfl ?_
  intro p e s m args below meth c C hr hlk hin
  refine v_lload_n C dX1_fill_0 rfl rfl ?_
  refine v_lstore C dX1_fill_1 (by decide) rfl ?_
  refine v_iload_n C dX1_fill_3 rfl rfl ?_
  refine v_aload_n C dX1_fill_4 rfl rfl ?_
  refine v_get C dX1_fill_5 2 (hI _ _ hq) rfl in_X1 (by decide) g_fl_X1_36 (fun x9 h9 => u_same (C.2.2.2.2.1 _ g_sf_X1_width) x9 h9) rfl ?_
  refine v_iadd C dX1_fill_8 ?_
  refine v_ri (show nI a + nI (E i).length = nI (a + ((js.take js.length).flatMap E).length) by rw [nI_add, List.take_length, hE, List.length_map]) ?_
  refine v_istore C dX1_fill_9 (by decide) rfl ?_
  refine v_aload_n C dX1_fill_11 rfl rfl ?_
  refine v_get C dX1_fill_12 4 (hI _ _ hq) rfl in_X1 (by decide) g_fl_X1_9 (fun _ h9 => h9) rfl ?_
  refine v_alen C dX1_fill_15 3 (hI _ _ hpa) rfl rfl ?_
  refine v_iconst (v := 1) C dX1_fill_16 (by decide) ?_
  refine v_isub C dX1_fill_17 ?_
  refine v_istore C dX1_fill_18 (by decide) rfl ?_
  refine v_loc [(0, .ref (ra i)), (1, .ref hh), (5, .long (lN (k / prodE sg ((js.drop js.length).flatMap E)))), (7, .int (nI (a + ((js.take js.length).flatMap E).length))), (8, .int (nI js.length - 1))] (lsub_c rfl (lsub_c rfl (lsub_c (by rw [List.drop_length]; show some (Value.long (lN k)) = some (Value.long (lN (k / 1))); rw [Nat.div_one]) (lsub_c rfl (lsub_c rfl lsub_n))))) ?_
  have hL := L_Beside_fill (e := e) (below := below) C hr hlk f sg E ra kd fi i hh ha a k h hok hI hn hH hne hA hw9 hk hk2 js pa g hq hpa h3 hg hE hjs js.length (Nat.le_refl _)
  rw [show filG sg ((js.drop js.length).flatMap E) (a + ((js.take js.length).flatMap E).length) (k % prodE sg ((js.drop js.length).flatMap E)) h = h by rw [List.drop_length]; exact filG_nil, va_up_id hA] at hL
  exact hL

theorem fill_all (l : Launch) (D : va_G) (B : Nat) (K : Nat → ClassId) {sg : Nat → Sg} {E : Nat → List Ent} {ra : Nat → Nat} {kd : Nat → Int32} {fi : St} {n : Nat} (hT : RT K sg E ra kd fi n) : ∀ i, i < n → FIk l D B K sg E ra fi i := by
  intro i
  induction i using Nat.strongRecOn with
  | _ i ih =>
    intro hi f hh ha a k h hI hn hH hne hA hw9 hk hk2
    obtain ⟨hok, hT2⟩ := hT
    rcases (hT2 i hi).1 with ⟨⟨fst, lst, sp, q1, q2⟩ | ⟨ar, fs, q1, q2⟩, hE⟩ | ⟨j, hj, q1, q2, hE⟩ | ⟨js, pa, g, q0, q3, q1, q2, q4, hE⟩
    · refine ⟨fun _ => c_Single_fill_X6 l D B K f sg E ra kd fi i hh ha a k h fst lst sp q2 hok hI hn hH hne hA hw9 hk hk2 q1 hE, fun h9 => ?_, fun h9 => ?_⟩
      · obtain ⟨fs, h9⟩ := h9; rw [q1] at h9; simp at h9
      · obtain ⟨fs, h9⟩ := h9; rw [q1] at h9; simp at h9
    · refine ⟨fun _ => c_Single_fill_X4 l D B K f sg E ra kd fi i hh ha a k h ar fs q2 hok hI hn hH hne hA hw9 hk hk2 q1 hE, fun h9 => ?_, fun h9 => ?_⟩
      · obtain ⟨fs, h9⟩ := h9; rw [q1] at h9; simp at h9
      · obtain ⟨fs, h9⟩ := h9; rw [q1] at h9; simp at h9
    · refine ⟨fun h9 => ?_, fun _ => c_Back_fill l D B K f sg E ra kd fi i hh ha a k h j hok hI hn hH hne hA hw9 hk hk2 q1 hj q2 hE (hT2 j (by omega)).1 (ih j hj (by omega)), fun h9 => ?_⟩
      · rcases h9 with ⟨fs, h9⟩ | ⟨fs, h9⟩ <;> (rw [q1] at h9; simp at h9)
      · obtain ⟨fs, h9⟩ := h9; rw [q1] at h9; simp at h9
    · refine ⟨fun h9 => ?_, fun h9 => ?_, fun _ => c_Beside_fill l D B K f sg E ra kd fi i hh ha a k h hok hI hn hH hne hA hw9 hk hk2 js pa g q1 q2 q3 q4 hE (fun j hj => ⟨q0 j hj, (hT2 j (by have := q0 j hj; omega)).1, ih j (q0 j hj) (by have := q0 j hj; omega), (hT2 j (by have := q0 j hj; omega)).2.2.1⟩)⟩
      · rcases h9 with ⟨fs, h9⟩ | ⟨fs, h9⟩ <;> (rw [q1] at h9; simp at h9)
      · obtain ⟨fs, h9⟩ := h9; rw [q1] at h9; simp at h9
end
section
/-! singleAt: the single that a number comes from -/
def SAk (l : Launch) (D : va_G) (B : Nat) (K : Nat → ClassId) (E : Nat → List Ent) (ra : Nat → Nat) (fi : St) (i : Nat) : Prop :=
  ∀ (f : St) (t : Nat) (e9 : Ent), Imm fi f → (E i)[t]? = some e9 → (E i).length ≤ 8 →
    (((∃ fs, fi (ra i) = some (.inr (5, fs))) ∨ ∃ fs, fi (ra i) = some (.inr (4, fs))) → Kc l D B K yX7_singleAt cX7_singleAt 2 ((some (.object "IndexRanges$Single"))) (i + 2) 0 0 [.ref (ra i), .int (nI t)] f (Qq_ D B (fun r f9 => r = some (ra e9.1) ∧ f9 = f))) ∧
    ((∃ fs, fi (ra i) = some (.inr (0, fs))) → Kc l D B K yX0_singleAt cX0_singleAt 2 ((some (.object "IndexRanges$Single"))) (i + 2) 0 0 [.ref (ra i), .int (nI t)] f (Qq_ D B (fun r f9 => r = some (ra e9.1) ∧ f9 = f))) ∧
    ((∃ fs, fi (ra i) = some (.inr (1, fs))) → Kc l D B K yX1_singleAt cX1_singleAt 7 ((some (.object "IndexRanges$Single"))) (i + 2) 0 0 [.ref (ra i), .int (nI t)] f (Qq_ D B (fun r f9 => r = some (ra e9.1) ∧ f9 = f)))
section VS
variable {p : Program} {l : Launch} {e : Env} {R : Room} {s : State} {m : MethodId} {args : Array Value} {below : List Frame} {meth : Method} {c : Code} {D : va_G} {B nL : Nat} {Q : State → Prop} {ce sl : Nat} {f : St} {lv : Lv} {pc : Nat} {st : List Value} {cc : ByteArray} {own : String} {K : Nat → ClassId}
theorem v_single (C : Cx p s m args c cc nL own D B K) {sg : Nat → Sg} {E : Nat → List Ent} {ra : Nat → Nat} {kd : Nat → Int32} {fi : St} {i index t : Nat} {e9 : Ent} {rest : List Value} (hd : decode cc pc = .ok (.invokevirtual index, 3)) (hT : RTi K sg E ra kd fi i) (hP : SAk l D B K E ra fi i) (hI : Imm fi f) (he : (E i)[t]? = some e9) (h8 : (E i).length ≤ 8)
    (g1 : Cond.methodLink own index xR_singleAt ∈ GT) (hR : RN R (i + 2 + 1)) (hst : st = [Value.int (nI t), .ref (ra i)] ++ rest) (hrest : (rest.map fun v => v.category).sum ≤ 8) (hf : ce ≤ R.cells ∧ sl ≤ R.slots)
    (k : V p l e R s m args below meth c D B nL Q ce sl f lv (pc + 3) (.ref (ra e9.1) :: rest)) : V p l e R s m args below meth c D B nL Q ce sl f lv pc st := by
  obtain ⟨h7, h0, h1⟩ := hP f t e9 hI he h8
  have hst2 : st = ([Value.int (nI t)] : List Value).reverse ++ .ref (ra i) :: rest := hst
  rcases hT with ⟨⟨fst, lst, sp, q1, _⟩ | ⟨ar, fs, q1, _⟩, hE⟩ | ⟨j, _, q1, _, hE⟩ | ⟨js, pa, g, _, _, q1, _⟩
  · exact v_cq (r_A (x := xR_singleAt) (owner := RX5) C (h7 (Or.inl ⟨_, q1⟩)) hd (hI _ _ q1) rfl g1 g_sm_X5_X5_singleAt g_se_X6_X5_singleAt_591b_yX7_singleAt g_im_yX7_singleAt g_in_X7 g_cd_yX7_singleAt (by decide +kernel) hR (by decide) hst2 hdn_xR_singleAt hrest hf) (fun r f9 hp => by obtain ⟨rfl, rfl⟩ := hp; exact k)
  · exact v_cq (r_A (x := xR_singleAt) (owner := RX5) C (h7 (Or.inr ⟨_, q1⟩)) hd (hI _ _ q1) rfl g1 g_sm_X5_X5_singleAt g_se_X4_X5_singleAt_591b_yX7_singleAt g_im_yX7_singleAt g_in_X7 g_cd_yX7_singleAt (by decide +kernel) hR (by decide) hst2 hdn_xR_singleAt hrest hf) (fun r f9 hp => by obtain ⟨rfl, rfl⟩ := hp; exact k)
  · exact v_cq (r_A (x := xR_singleAt) (owner := RX5) C (h0 ⟨_, q1⟩) hd (hI _ _ q1) rfl g1 g_sm_X5_X5_singleAt g_se_X0_X5_singleAt_591b_yX0_singleAt g_im_yX0_singleAt g_in_X0 g_cd_yX0_singleAt (by decide +kernel) hR (by decide) hst2 hdn_xR_singleAt hrest hf) (fun r f9 hp => by obtain ⟨rfl, rfl⟩ := hp; exact k)
  · exact v_cq (r_A (x := xR_singleAt) (owner := RX5) C (h1 ⟨_, q1⟩) hd (hI _ _ q1) rfl g1 g_sm_X5_X5_singleAt g_se_X1_X5_singleAt_591b_yX1_singleAt g_im_yX1_singleAt g_in_X1 g_cd_yX1_singleAt (by decide +kernel) hR (by decide) hst2 hdn_xR_singleAt hrest hf) (fun r f9 hp => by obtain ⟨rfl, rfl⟩ := hp; exact k)
end VS
set_option maxHeartbeats 4000000 in
set_option maxRecDepth 100000 in
theorem c_Single_singleAt (l : Launch) (D : va_G) (B : Nat) (K : Nat → ClassId) (f : St) (sg : Nat → Sg) (E : Nat → List Ent) (ra : Nat → Nat) (kd : Nat → Int32) (fi : St) (i t : Nat) (e9 : Ent) (hI : Imm fi f) (he : (E i)[t]? = some e9) (h8 : (E i).length ≤ 8) (hE : E i = [(i, false, 0)]) : Kc l D B K yX7_singleAt cX7_singleAt 2 ((some (.object "IndexRanges$Single"))) (i + 2) 0 0 [.ref (ra i), .int (nI t)] f (Qq_ D B (fun r f9 => r = some (ra e9.1) ∧ f9 = f)) := by
  refine v_met [(0, .ref (ra i)), (1, .int (nI t))] (by decide) (Nat.le_of_ble_eq_true rfl) rfl ?_
  intro p e s m args below meth c C hr hlk hin
  have ht0 : t = 0 ∧ e9 = (i, false, 0) := by
    rw [hE] at he
    cases t with
    | zero => exact ⟨rfl, (Option.some.inj he).symm⟩
    | succ t => simp at he
  have ht : nI t = 0 := by rw [ht0.1]; rfl
  have hi9 : e9.1 = i := by rw [ht0.2]
  refine v_iload_n C dX7_singleAt_0 rfl rfl ?_
  refine v_if_ne (tgt := 8) C dX7_singleAt_1 (by decide) (fun c_1 => absurd ht c_1) (fun c_1 => ?_)
  refine v_aload_n C dX7_singleAt_4 rfl rfl ?_
  refine v_goto (tgt := 9) C dX7_singleAt_5 (by decide) ?_
  exact v_aret (x := some (ra i)) C hr hlk dX7_singleAt_9 (Nat.le_refl _) (Nat.le_refl _) ⟨by rw [hi9], rfl⟩

set_option maxHeartbeats 4000000 in
set_option maxRecDepth 100000 in
theorem c_Back_singleAt (l : Launch) (D : va_G) (B : Nat) (K : Nat → ClassId) (f : St) (sg : Nat → Sg) (E : Nat → List Ent) (ra : Nat → Nat) (kd : Nat → Int32) (fi : St) (i t : Nat) (e9 : Ent) (j : Nat) (hI : Imm fi f) (he : (E i)[t]? = some e9) (h8 : (E i).length ≤ 8) (hq : fi (ra i) = some (.inr (0, [.int (nI i), .int (kd i), .int (nI (E j).length), .long (sat (prodE sg (E j))), .ref (ra j)]))) (hji : j < i) (hE : E i = (E j).map flipE) (hTj : RTi K sg E ra kd fi j) (hPj : SAk l D B K E ra fi j) : Kc l D B K yX0_singleAt cX0_singleAt 2 ((some (.object "IndexRanges$Single"))) (i + 2) 0 0 [.ref (ra i), .int (nI t)] f (Qq_ D B (fun r f9 => r = some (ra e9.1) ∧ f9 = f)) := by
  refine v_met [(0, .ref (ra i)), (1, .int (nI t))] (by decide) (Nat.le_of_ble_eq_true rfl) rfl ?_
  intro p e s m args below meth c C hr hlk hin
  have h8j : (E j).length ≤ 8 := by rw [hE, List.length_map] at h8; exact h8
  obtain ⟨e8, he8, hee⟩ : ∃ e8, (E j)[t]? = some e8 ∧ flipE e8 = e9 := by
    rw [hE, List.getElem?_map] at he
    exact Option.map_eq_some_iff.mp he
  refine v_aload_n C dX0_singleAt_0 rfl rfl ?_
  refine v_get C dX0_singleAt_1 4 (hI _ _ hq) rfl in_X0 (by decide) g_fl_X0_17 (fun _ h9 => h9) rfl ?_
  refine v_iload_n C dX0_singleAt_4 rfl rfl ?_
  refine v_single (i := j) (t := t) (e9 := e8) C dX0_singleAt_5 hTj hPj hI he8 h8j g_ml_X0_34 (rn_le (by omega)) rfl (Nat.le_of_ble_eq_true rfl) ⟨Nat.le_refl _, Nat.le_refl _⟩ ?_
  exact v_aret (x := some (ra e8.1)) C hr hlk dX0_singleAt_8 (Nat.le_refl _) (Nat.le_refl _) ⟨by rw [← hee]; rfl, rfl⟩

set_option maxHeartbeats 4000000 in
set_option maxRecDepth 100000 in
theorem L_Beside_singleAt {p : Program} {l : Launch} {e : Env} {s : State} {m : MethodId} {args : Array Value} {below : List Frame} {meth : Method} {c : Code} {D : va_G} {B : Nat} {K : Nat → ClassId} (C : Cx p s m args c cX1_singleAt 7 yX1_singleAt.cls D B K) (hr : meth.sig.returnType = (some (.object "IndexRanges$Single"))) (hlk : meth.locks = false) (f : St) (sg : Nat → Sg) (E : Nat → List Ent) (ra : Nat → Nat) (kd : Nat → Int32) (fi : St) (i t : Nat) (e9 : Ent) (hI : Imm fi f) (he : (E i)[t]? = some e9) (h8 : (E i).length ≤ 8) (js : List Nat) (pa : Nat) (g : Nat → Option Nat) (hq : fi (ra i) = some (.inr (1, [.int (nI i), .int (kd i), .int (nI (E i).length), .long (sat (prodE sg (E i))), .ref pa]))) (hpa : fi pa = some (.inl (K 3, js.length, .inr (.inr (.inr (.inr g)))))) (h3 : js.length ≤ 3) (hg : ∀ t j, js[t]? = some j → g t = some (ra j)) (hE : E i = (js.flatMap E).map deepE) (hjs : ∀ j ∈ js, j < i ∧ RTi K sg E ra kd fi j ∧ SAk l D B K E ra fi j) : ∀ (n tt : Nat), tt ≤ js.length → js.length + 1 ≤ tt + n → ((js.take tt).flatMap E).length ≤ t → V p l e (RM (i + 2) 0 0) s m args below meth c D B 7 (MQ below (Qq_ D B (fun r f9 => r = some (ra e9.1) ∧ f9 = f)) args s 0 0 (AB B)) 0 0 f (lof [(2, .int (nI (t - ((js.take tt).flatMap E).length))), (3, .ref pa), (4, .int (nI js.length)), (5, .int (nI tt))]) 14 [] := by
  have h8 : (js.flatMap E).length ≤ 8 := by rw [hE, List.length_map] at h8; exact h8
  obtain ⟨e7, he7, hee7⟩ : ∃ e8, (js.flatMap E)[t]? = some e8 ∧ deepE e8 = e9 := by
    rw [hE, List.getElem?_map] at he
    exact Option.map_eq_some_iff.mp he
  have htl := (List.getElem?_eq_some_iff.mp he7).1
  intro n
  induction n with
  | zero => intro tt h1 h2; omega
  | succ n ih =>
    intro tt htt hin hle
    have hlt : tt < js.length := by
      rcases Nat.lt_or_ge tt js.length with q | q
      · exact q
      · rw [List.take_of_length_le q] at hle; omega
    obtain ⟨j, hj⟩ : ∃ j, js[tt]? = some j := ⟨_, List.getElem?_eq_getElem hlt⟩
    obtain ⟨hji, hTj, hPj⟩ := hjs j (List.mem_of_getElem? hj)
    obtain ⟨ci, fs, hci, hcell, hf0, hf1, hf2, hf3⟩ := RT_hdr hTj
    refine v_iload C dX1_singleAt_14 rfl ?_
    refine v_iload C dX1_singleAt_16 rfl ?_
    refine v_icmp_ge (tgt := 57) C dX1_singleAt_18 (by decide) (fun c_18 => absurd c_18 (nI_ge hlt (by omega))) (fun c_18 => ?_)
    refine v_aload_n C dX1_singleAt_21 rfl rfl ?_
    refine v_iload C dX1_singleAt_22 rfl ?_
    refine v_aldq C dX1_singleAt_24 (hI _ _ hpa) (vp_in_nI hlt (by omega)) ?_
    refine v_rq (by rw [nI_clamp (by omega)]; exact hg tt j hj) ?_
    refine v_astore C dX1_singleAt_25 (by decide) rfl ?_
    refine v_iload_n C dX1_singleAt_27 rfl rfl ?_
    refine v_aload C dX1_singleAt_28 rfl ?_
    refine v_getR C dX1_singleAt_30 2 (by decide) hci (hI _ _ hcell) g_fl_X1_32 hf2 ?_
    by_cases hin9 : t - ((js.take tt).flatMap E).length < (E j).length
    · obtain ⟨e8, he8, hee⟩ : ∃ e8, (E j)[t - ((js.take tt).flatMap E).length]? = some e8 ∧ deepE e8 = e9 := by
        rw [split_fm E hj, List.getElem?_append_right hle, List.getElem?_append_left hin9] at he7
        exact ⟨e7, he7, hee7⟩
      refine v_icmp_ge (tgt := 43) C dX1_singleAt_33 (by decide) (fun c_33 => absurd c_33 (nI_ge hin9 (by have h9 := fm_len E hj; omega))) (fun c_33 => ?_)
      refine v_aload C dX1_singleAt_36 rfl ?_
      refine v_iload_n C dX1_singleAt_38 rfl rfl ?_
      refine v_single (i := j) (t := t - ((js.take tt).flatMap E).length) (e9 := e8) C dX1_singleAt_39 hTj hPj hI he8 (by have h9 := fm_len E hj; omega) g_ml_X1_41 (rn_le (by omega)) rfl (Nat.le_of_ble_eq_true rfl) ⟨Nat.le_refl _, Nat.le_refl _⟩ ?_
      exact v_aret (x := some (ra e8.1)) C hr hlk dX1_singleAt_42 (Nat.le_refl _) (Nat.le_refl _) ⟨by rw [← hee]; rfl, rfl⟩
    · refine v_icmp_ge (tgt := 43) C dX1_singleAt_33 (by decide) (fun c_33 => ?_) (fun c_33 => absurd (nI_le (by omega) (by omega)) c_33)
      refine v_iload_n C dX1_singleAt_43 rfl rfl ?_
      refine v_aload C dX1_singleAt_44 rfl ?_
      refine v_getR C dX1_singleAt_46 2 (by decide) hci (hI _ _ hcell) g_fl_X1_32 hf2 ?_
      refine v_isub C dX1_singleAt_49 ?_
      refine v_ri (show nI (t - ((js.take tt).flatMap E).length) - nI (E j).length = nI (t - ((js.take (tt + 1)).flatMap E).length) by rw [pk_sub (by omega), take_fm E hj, List.length_append]; congr 1; omega) ?_
      refine v_istore_n C dX1_singleAt_50 rfl (by decide) rfl ?_
      refine v_iinc (y := 1) C dX1_singleAt_51 rfl (by decide) (by decide) rfl ?_
      refine v_goto (tgt := 14) C dX1_singleAt_54 (by decide) ?_
      refine v_loc [(2, .int (nI (t - ((js.take (tt + 1)).flatMap E).length))), (3, .ref pa), (4, .int (nI js.length)), (5, .int (nI (tt + 1)))] (lsub_c rfl (lsub_c rfl (lsub_c rfl (lsub_c (by rw [nI_succ]; rfl) lsub_n)))) ?_
      exact ih (tt + 1) hlt (by omega) (by rw [take_fm E hj, List.length_append]; omega)

set_option maxHeartbeats 4000000 in
set_option maxRecDepth 100000 in
theorem c_Beside_singleAt (l : Launch) (D : va_G) (B : Nat) (K : Nat → ClassId) (f : St) (sg : Nat → Sg) (E : Nat → List Ent) (ra : Nat → Nat) (kd : Nat → Int32) (fi : St) (i t : Nat) (e9 : Ent) (hI : Imm fi f) (he : (E i)[t]? = some e9) (h8 : (E i).length ≤ 8) (js : List Nat) (pa : Nat) (g : Nat → Option Nat) (hq : fi (ra i) = some (.inr (1, [.int (nI i), .int (kd i), .int (nI (E i).length), .long (sat (prodE sg (E i))), .ref pa]))) (hpa : fi pa = some (.inl (K 3, js.length, .inr (.inr (.inr (.inr g)))))) (h3 : js.length ≤ 3) (hg : ∀ t j, js[t]? = some j → g t = some (ra j)) (hE : E i = (js.flatMap E).map deepE) (hjs : ∀ j ∈ js, j < i ∧ RTi K sg E ra kd fi j ∧ SAk l D B K E ra fi j) : Kc l D B K yX1_singleAt cX1_singleAt 7 ((some (.object "IndexRanges$Single"))) (i + 2) 0 0 [.ref (ra i), .int (nI t)] f (Qq_ D B (fun r f9 => r = some (ra e9.1) ∧ f9 = f)) := by
  refine v_met [(0, .ref (ra i)), (1, .int (nI t))] (by decide) (Nat.le_of_ble_eq_true rfl) rfl ?_
  intro p e s m args below meth c C hr hlk hin
  refine v_iload_n C dX1_singleAt_0 rfl rfl ?_
  refine v_istore_n C dX1_singleAt_1 rfl (by decide) rfl ?_
  refine v_aload_n C dX1_singleAt_2 rfl rfl ?_
  refine v_get C dX1_singleAt_3 4 (hI _ _ hq) rfl in_X1 (by decide) g_fl_X1_9 (fun _ h9 => h9) rfl ?_
  refine v_astore_n C dX1_singleAt_6 rfl (by decide) rfl ?_
  refine v_aload_n C dX1_singleAt_7 rfl rfl ?_
  refine v_alen C dX1_singleAt_8 3 (hI _ _ hpa) rfl rfl ?_
  refine v_istore C dX1_singleAt_9 (by decide) rfl ?_
  refine v_iconst (v := 0) C dX1_singleAt_11 (by decide) ?_
  refine v_istore C dX1_singleAt_12 (by decide) rfl ?_
  refine v_loc [(2, .int (nI (t - ((js.take 0).flatMap E).length))), (3, .ref pa), (4, .int (nI js.length)), (5, .int (nI 0))] (lsub_c rfl (lsub_c rfl (lsub_c rfl (lsub_c rfl lsub_n)))) ?_
  exact L_Beside_singleAt C hr hlk f sg E ra kd fi i t e9 hI he h8 js pa g hq hpa h3 hg hE hjs (js.length + 1) 0 (Nat.zero_le _) (by omega) (Nat.zero_le _)

theorem single_all (l : Launch) (D : va_G) (B : Nat) (K : Nat → ClassId) {sg : Nat → Sg} {E : Nat → List Ent} {ra : Nat → Nat} {kd : Nat → Int32} {fi : St} {n : Nat} (hT : RT K sg E ra kd fi n) : ∀ i, i < n → SAk l D B K E ra fi i := by
  intro i
  induction i using Nat.strongRecOn with
  | _ i ih =>
    intro hi f t e9 hI he h8
    obtain ⟨hok, hT2⟩ := hT
    rcases (hT2 i hi).1 with ⟨⟨fst, lst, sp, q1, q2⟩ | ⟨ar, fs, q1, q2⟩, hE⟩ | ⟨j, hj, q1, q2, hE⟩ | ⟨js, pa, g, q0, q3, q1, q2, q4, hE⟩
    · refine ⟨fun _ => c_Single_singleAt l D B K f sg E ra kd fi i t e9 hI he h8 hE, fun h9 => ?_, fun h9 => ?_⟩
      · obtain ⟨fs, h9⟩ := h9; rw [q1] at h9; simp at h9
      · obtain ⟨fs, h9⟩ := h9; rw [q1] at h9; simp at h9
    · refine ⟨fun _ => c_Single_singleAt l D B K f sg E ra kd fi i t e9 hI he h8 hE, fun h9 => ?_, fun h9 => ?_⟩
      · obtain ⟨fs, h9⟩ := h9; rw [q1] at h9; simp at h9
      · obtain ⟨fs, h9⟩ := h9; rw [q1] at h9; simp at h9
    · refine ⟨fun h9 => ?_, fun _ => c_Back_singleAt l D B K f sg E ra kd fi i t e9 j hI he h8 q1 hj hE (hT2 j (by omega)).1 (ih j hj (by omega)), fun h9 => ?_⟩
      · rcases h9 with ⟨fs, h9⟩ | ⟨fs, h9⟩ <;> (rw [q1] at h9; simp at h9)
      · obtain ⟨fs, h9⟩ := h9; rw [q1] at h9; simp at h9
    · refine ⟨fun h9 => ?_, fun h9 => ?_, fun _ => c_Beside_singleAt l D B K f sg E ra kd fi i t e9 hI he h8 js pa g q1 q2 q3 q4 hE (fun j hj => ⟨q0 j hj, (hT2 j (by have := q0 j hj; omega)).1, ih j (q0 j hj) (by have := q0 j hj; omega)⟩)⟩
      · rcases h9 with ⟨fs, h9⟩ | ⟨fs, h9⟩ <;> (rw [q1] at h9; simp at h9)
      · obtain ⟨fs, h9⟩ := h9; rw [q1] at h9; simp at h9
end
