/-! the program: its own cells, its own helpers -/
def ClC (K : Nat → ClassId) (q : Nat → Nat) (f : St) (n na : Nat) (t x y z : Int32) (g gb : Nat → Option Nat) (h hs : Nat → Int64) (cl : Nat → Nat → Int32) : Prop :=
  f (q 0) = some (.inr (6, [.ref (q 1), .ref (q 2), .ref (q 3), .ref (q 4), .ref (q 5), .ref (q 6), .int (nI n), .int (nI na)])) ∧
  f (q 1) = some (.inr (2, [.ref (q 7)])) ∧ f (q 2) = some (.inr (2, [.ref (q 8)])) ∧ f (q 3) = some (.inr (3, [.int t, .int x, .int y, .int z])) ∧
  f (q 4) = some (.inl (K 3, 40, .inr (.inr (.inr (.inr (g)))))) ∧ f (q 5) = some (.inl (K 3, 6, .inr (.inr (.inr (.inr (gb)))))) ∧ f (q 6) = some (.inl (K 4, 6, .inr (.inr (.inr (.inr (fun i => if i < 6 then some (q (9 + i)) else none)))))) ∧
  f (q 7) = some (.inl (K 1, 8, .inr (.inl h))) ∧ f (q 8) = some (.inl (K 1, 8, .inr (.inl hs))) ∧ (∀ i, i < 6 → f (q (9 + i)) = some (.inl (K 0, 400, .inl (cl i)))) ∧ (∀ i j, i < 15 → j < 15 → q i = q j → i = j)
def ptK (k : Int32) : Nat := if k = 4 then 1 else if k = 5 then 2 else if k = 6 then 3 else 0
def MKi (K : Nat → ClassId) (ra : Nat → Nat) (kd : Nat → Int32) (fi : St) (i : Nat) : Prop :=
  ((∃ fs, fi (ra i) = some (.inr (5, fs))) → ptK (kd i) = 0) ∧ ((∃ fs, fi (ra i) = some (.inr (4, fs))) → ptK (kd i) = 0) ∧ ((∃ fs, fi (ra i) = some (.inr (0, fs))) → ptK (kd i) = 1) ∧
  (∀ (x0 x1 x2 x3 : Value) (pa len : Nat) (g : Nat → Option Nat), fi (ra i) = some (.inr (1, [x0, x1, x2, x3, .ref pa])) → fi pa = some (.inl (K 3, len, .inr (.inr (.inr (.inr (g)))))) → len = ptK (kd i))
def ClI (K : Nat → ClassId) (q : Nat → Nat) (fi f : St) (n na : Nat) (sg : Nat → Sg) (E : Nat → List Ent) (ra : Nat → Nat) (kd : Nat → Int32) (t x y z : Int32) (g gb : Nat → Option Nat) (h hs : Nat → Int64) (bs : Nat → Nat) (cl : Nat → Nat → Int32) : Prop :=
  ClC K q f n na t x y z g gb h hs cl ∧ Imm fi f ∧ (∀ j, j < 15 → fi (q j) = none) ∧ RT K sg E ra kd fi n ∧ n ≤ 40 ∧ (∀ i, i < n → g i = some (ra i)) ∧ na ≤ 6 ∧ (∀ a, a < na → gb a = some (ra (bs a)) ∧ bs a < n ∧ prodE sg (E (bs a)) ≤ 400) ∧ (∀ i, i < n → MKi K ra kd fi i)
def Cl (K : Nat → ClassId) (q : Nat → Nat) (f : St) (n na : Nat) (sg : Nat → Sg) (E : Nat → List Ent) (kd : Nat → Int32) (t x y z : Int32) (h : Nat → Int64) (bs : Nat → Nat) (cl : Nat → Nat → Int32) : Prop :=
  ∃ (fi : St) (ra : Nat → Nat) (g gb : Nat → Option Nat) (hs : Nat → Int64), ClI K q fi f n na sg E ra kd t x y z g gb h hs bs cl
def Out (q : Nat → Nat) (f f9 : St) : Prop := ∀ a x, (∀ j, j < 15 → a ≠ q j) → f a = some x → f9 a = some x
theorem Out.rf {q : Nat → Nat} {f : St} : Out q f f := fun _ _ _ h => h
theorem Out.tr {q : Nat → Nat} {f f1 f2 : St} (h1 : Out q f f1) (h2 : Out q f1 f2) : Out q f f2 := fun a x hj h => h2 a x hj (h1 a x hj h)
theorem Out.up {q : Nat → Nat} {f : St} {j : Nat} {y : Option va_E} (hj : j < 15) : Out q f (va_up f (q j) y) := fun a x h h9 => by rw [va_up_ne _ _ (h j hj)]; exact h9
theorem Out.new {q : Nat → Nat} {f : St} {b : Nat} {y : Option va_E} (hb : f b = none) : Out q f (va_up f b y) := fun a x h h9 => by
  rw [va_up_ne]
  · exact h9
  · intro e; subst e; rw [hb] at h9; cases h9
set_option maxHeartbeats 4000000 in
set_option maxRecDepth 100000 in
theorem c_rangeOf_ok (l : Launch) (D : va_G) (B : Nat) (K : Nat → ClassId) (f : St) (q : Nat → Nat) (n na : Nat) (g : Nat → Option Nat) (i b : Nat) (h0 : f (q 0) = some (.inr (6, [.ref (q 1), .ref (q 2), .ref (q 3), .ref (q 4), .ref (q 5), .ref (q 6), .int (nI n), .int (nI na)]))) (h4 : f (q 4) = some (.inl (K 3, 40, .inr (.inr (.inr (.inr (g))))))) (hi : i < n) (h40 : n ≤ 40) (hg : g i = some b) : Kc l D B K yX8_rangeOf cX8_rangeOf 2 ((some (.object "IndexRanges$Range"))) 0 0 0 [.ref (q 0), .int (nI i)] f (Qq_ D B (fun r f9 => r = some b ∧ f9 = f)) := by
  refine v_met [(0, .ref (q 0)), (1, .int (nI i))] (by decide) (Nat.le_of_ble_eq_true rfl) rfl ?_
  intro p e s m args below meth c C hr hlk hin
  refine v_iload_n C dX8_rangeOf_0 rfl rfl ?_
  refine v_if_lt (tgt := 21) C dX8_rangeOf_1 (by decide) (fun c_1 => absurd c_1 (nI_pos (by omega))) (fun c_1 => ?_)
  refine v_iload_n C dX8_rangeOf_4 rfl rfl ?_
  refine v_aload_n C dX8_rangeOf_5 rfl rfl ?_
  refine v_get C dX8_rangeOf_6 6 h0 rfl in_X8 (by decide) g_fl_X8_40 (fun _ h9 => h9) rfl ?_
  refine v_icmp_ge (tgt := 21) C dX8_rangeOf_9 (by decide) (fun c_9 => absurd c_9 (nI_ge hi (by omega))) (fun c_9 => ?_)
  refine v_aload_n C dX8_rangeOf_12 rfl rfl ?_
  refine v_get C dX8_rangeOf_13 3 h0 rfl in_X8 (by decide) g_fl_X8_28 (fun _ h9 => h9) rfl ?_
  refine v_iload_n C dX8_rangeOf_16 rfl rfl ?_
  refine v_aldq C dX8_rangeOf_17 h4 (vp_in_nI (by omega) (by omega)) ?_
  refine v_goto (tgt := 22) C dX8_rangeOf_18 (by decide) ?_
  exact v_aret C hr hlk dX8_rangeOf_22 (Nat.le_refl _) (Nat.le_refl _) ⟨by rw [nI_clamp (by omega)]; exact hg, rfl⟩

set_option maxHeartbeats 4000000 in
set_option maxRecDepth 100000 in
theorem c_rangeOf_neg (l : Launch) (D : va_G) (B : Nat) (K : Nat → ClassId) (f : St) (q : Nat → Nat) (n na : Nat) (x : Int32) (h0 : f (q 0) = some (.inr (6, [.ref (q 1), .ref (q 2), .ref (q 3), .ref (q 4), .ref (q 5), .ref (q 6), .int (nI n), .int (nI na)]))) (hx : x < 0) (h40 : n ≤ 40) : Kc l D B K yX8_rangeOf cX8_rangeOf 2 ((some (.object "IndexRanges$Range"))) 0 0 0 [.ref (q 0), .int x] f (Qq_ D B (fun r f9 => r = none ∧ f9 = f)) := by
  refine v_met [(0, .ref (q 0)), (1, .int x)] (by decide) (Nat.le_of_ble_eq_true rfl) rfl ?_
  intro p e s m args below meth c C hr hlk hin
  refine v_iload_n C dX8_rangeOf_0 rfl rfl ?_
  refine v_if_lt (tgt := 21) C dX8_rangeOf_1 (by decide) (fun c_1 => ?_) (fun c_1 => absurd hx c_1)
  refine v_null C dX8_rangeOf_21 ?_
  exact v_aret (x := none) C hr hlk dX8_rangeOf_22 (Nat.le_refl _) (Nat.le_refl _) ⟨rfl, rfl⟩

set_option maxHeartbeats 4000000 in
set_option maxRecDepth 100000 in
theorem c_rangeOf_big (l : Launch) (D : va_G) (B : Nat) (K : Nat → ClassId) (f : St) (q : Nat → Nat) (n na : Nat) (x : Int32) (h0 : f (q 0) = some (.inr (6, [.ref (q 1), .ref (q 2), .ref (q 3), .ref (q 4), .ref (q 5), .ref (q 6), .int (nI n), .int (nI na)]))) (hx : nI n ≤ x) (h40 : n ≤ 40) : Kc l D B K yX8_rangeOf cX8_rangeOf 2 ((some (.object "IndexRanges$Range"))) 0 0 0 [.ref (q 0), .int x] f (Qq_ D B (fun r f9 => r = none ∧ f9 = f)) := by
  refine v_met [(0, .ref (q 0)), (1, .int x)] (by decide) (Nat.le_of_ble_eq_true rfl) rfl ?_
  intro p e s m args below meth c C hr hlk hin
  refine v_iload_n C dX8_rangeOf_0 rfl rfl ?_
  refine v_if_lt (tgt := 21) C dX8_rangeOf_1 (by decide) (fun c_1 => absurd c_1 (fun h9 => by rw [Int32.lt_iff_toInt_lt] at h9; rw [Int32.le_iff_toInt_le, nI_toInt (show n < 2 ^ 31 by omega)] at hx; have e0 : (0 : Int32).toInt = 0 := rfl; omega)) (fun c_1 => ?_)
  refine v_iload_n C dX8_rangeOf_4 rfl rfl ?_
  refine v_aload_n C dX8_rangeOf_5 rfl rfl ?_
  refine v_get C dX8_rangeOf_6 6 h0 rfl in_X8 (by decide) g_fl_X8_40 (fun _ h9 => h9) rfl ?_
  refine v_icmp_ge (tgt := 21) C dX8_rangeOf_9 (by decide) (fun c_9 => ?_) (fun c_9 => absurd hx c_9)
  refine v_null C dX8_rangeOf_21 ?_
  exact v_aret (x := none) C hr hlk dX8_rangeOf_22 (Nat.le_refl _) (Nat.le_refl _) ⟨rfl, rfl⟩

theorem c_rangeOf_bad (l : Launch) (D : va_G) (B : Nat) (K : Nat → ClassId) (f : St) (q : Nat → Nat) (n na : Nat) (x : Int32) (h0 : f (q 0) = some (.inr (6, [.ref (q 1), .ref (q 2), .ref (q 3), .ref (q 4), .ref (q 5), .ref (q 6), .int (nI n), .int (nI na)]))) (hx : x < 0 ∨ nI n ≤ x) (h40 : n ≤ 40) : Kc l D B K yX8_rangeOf cX8_rangeOf 2 ((some (.object "IndexRanges$Range"))) 0 0 0 [.ref (q 0), .int x] f (Qq_ D B (fun r f9 => r = none ∧ f9 = f)) := hx.elim (fun h => c_rangeOf_neg l D B K f q n na x h0 h h40) (fun h => c_rangeOf_big l D B K f q n na x h0 h h40)
set_option maxHeartbeats 4000000 in
set_option maxRecDepth 100000 in
theorem c_baseOf_ok (l : Launch) (D : va_G) (B : Nat) (K : Nat → ClassId) (f : St) (q : Nat → Nat) (n na : Nat) (g : Nat → Option Nat) (i b : Nat) (h0 : f (q 0) = some (.inr (6, [.ref (q 1), .ref (q 2), .ref (q 3), .ref (q 4), .ref (q 5), .ref (q 6), .int (nI n), .int (nI na)]))) (h5 : f (q 5) = some (.inl (K 3, 6, .inr (.inr (.inr (.inr (g))))))) (hi : i < na) (h40 : na ≤ 6) (hg : g i = some b) : Kc l D B K yX8_baseOf cX8_baseOf 2 ((some (.object "IndexRanges$Range"))) 0 0 0 [.ref (q 0), .int (nI i)] f (Qq_ D B (fun r f9 => r = some b ∧ f9 = f)) := by
  refine v_met [(0, .ref (q 0)), (1, .int (nI i))] (by decide) (Nat.le_of_ble_eq_true rfl) rfl ?_
  intro p e s m args below meth c C hr hlk hin
  refine v_iload_n C dX8_baseOf_0 rfl rfl ?_
  refine v_if_lt (tgt := 21) C dX8_baseOf_1 (by decide) (fun c_1 => absurd c_1 (nI_pos (by omega))) (fun c_1 => ?_)
  refine v_iload_n C dX8_baseOf_4 rfl rfl ?_
  refine v_aload_n C dX8_baseOf_5 rfl rfl ?_
  refine v_get C dX8_baseOf_6 7 h0 rfl in_X8 (by decide) g_fl_X8_44 (fun _ h9 => h9) rfl ?_
  refine v_icmp_ge (tgt := 21) C dX8_baseOf_9 (by decide) (fun c_9 => absurd c_9 (nI_ge hi (by omega))) (fun c_9 => ?_)
  refine v_aload_n C dX8_baseOf_12 rfl rfl ?_
  refine v_get C dX8_baseOf_13 4 h0 rfl in_X8 (by decide) g_fl_X8_32 (fun _ h9 => h9) rfl ?_
  refine v_iload_n C dX8_baseOf_16 rfl rfl ?_
  refine v_aldq C dX8_baseOf_17 h5 (vp_in_nI (by omega) (by omega)) ?_
  refine v_goto (tgt := 22) C dX8_baseOf_18 (by decide) ?_
  exact v_aret C hr hlk dX8_baseOf_22 (Nat.le_refl _) (Nat.le_refl _) ⟨by rw [nI_clamp (by omega)]; exact hg, rfl⟩

set_option maxHeartbeats 4000000 in
set_option maxRecDepth 100000 in
theorem c_baseOf_neg (l : Launch) (D : va_G) (B : Nat) (K : Nat → ClassId) (f : St) (q : Nat → Nat) (n na : Nat) (x : Int32) (h0 : f (q 0) = some (.inr (6, [.ref (q 1), .ref (q 2), .ref (q 3), .ref (q 4), .ref (q 5), .ref (q 6), .int (nI n), .int (nI na)]))) (hx : x < 0) (h40 : na ≤ 6) : Kc l D B K yX8_baseOf cX8_baseOf 2 ((some (.object "IndexRanges$Range"))) 0 0 0 [.ref (q 0), .int x] f (Qq_ D B (fun r f9 => r = none ∧ f9 = f)) := by
  refine v_met [(0, .ref (q 0)), (1, .int x)] (by decide) (Nat.le_of_ble_eq_true rfl) rfl ?_
  intro p e s m args below meth c C hr hlk hin
  refine v_iload_n C dX8_baseOf_0 rfl rfl ?_
  refine v_if_lt (tgt := 21) C dX8_baseOf_1 (by decide) (fun c_1 => ?_) (fun c_1 => absurd hx c_1)
  refine v_null C dX8_baseOf_21 ?_
  exact v_aret (x := none) C hr hlk dX8_baseOf_22 (Nat.le_refl _) (Nat.le_refl _) ⟨rfl, rfl⟩

set_option maxHeartbeats 4000000 in
set_option maxRecDepth 100000 in
theorem c_baseOf_big (l : Launch) (D : va_G) (B : Nat) (K : Nat → ClassId) (f : St) (q : Nat → Nat) (n na : Nat) (x : Int32) (h0 : f (q 0) = some (.inr (6, [.ref (q 1), .ref (q 2), .ref (q 3), .ref (q 4), .ref (q 5), .ref (q 6), .int (nI n), .int (nI na)]))) (hx : nI na ≤ x) (h40 : na ≤ 6) : Kc l D B K yX8_baseOf cX8_baseOf 2 ((some (.object "IndexRanges$Range"))) 0 0 0 [.ref (q 0), .int x] f (Qq_ D B (fun r f9 => r = none ∧ f9 = f)) := by
  refine v_met [(0, .ref (q 0)), (1, .int x)] (by decide) (Nat.le_of_ble_eq_true rfl) rfl ?_
  intro p e s m args below meth c C hr hlk hin
  refine v_iload_n C dX8_baseOf_0 rfl rfl ?_
  refine v_if_lt (tgt := 21) C dX8_baseOf_1 (by decide) (fun c_1 => absurd c_1 (fun h9 => by rw [Int32.lt_iff_toInt_lt] at h9; rw [Int32.le_iff_toInt_le, nI_toInt (show na < 2 ^ 31 by omega)] at hx; have e0 : (0 : Int32).toInt = 0 := rfl; omega)) (fun c_1 => ?_)
  refine v_iload_n C dX8_baseOf_4 rfl rfl ?_
  refine v_aload_n C dX8_baseOf_5 rfl rfl ?_
  refine v_get C dX8_baseOf_6 7 h0 rfl in_X8 (by decide) g_fl_X8_44 (fun _ h9 => h9) rfl ?_
  refine v_icmp_ge (tgt := 21) C dX8_baseOf_9 (by decide) (fun c_9 => ?_) (fun c_9 => absurd hx c_9)
  refine v_null C dX8_baseOf_21 ?_
  exact v_aret (x := none) C hr hlk dX8_baseOf_22 (Nat.le_refl _) (Nat.le_refl _) ⟨rfl, rfl⟩

theorem c_baseOf_bad (l : Launch) (D : va_G) (B : Nat) (K : Nat → ClassId) (f : St) (q : Nat → Nat) (n na : Nat) (x : Int32) (h0 : f (q 0) = some (.inr (6, [.ref (q 1), .ref (q 2), .ref (q 3), .ref (q 4), .ref (q 5), .ref (q 6), .int (nI n), .int (nI na)]))) (hx : x < 0 ∨ nI na ≤ x) (h40 : na ≤ 6) : Kc l D B K yX8_baseOf cX8_baseOf 2 ((some (.object "IndexRanges$Range"))) 0 0 0 [.ref (q 0), .int x] f (Qq_ D B (fun r f9 => r = none ∧ f9 = f)) := hx.elim (fun h => c_baseOf_neg l D B K f q n na x h0 h h40) (fun h => c_baseOf_big l D B K f q n na x h0 h h40)
set_option maxHeartbeats 4000000 in
set_option maxRecDepth 100000 in
theorem c_isFull_no (l : Launch) (D : va_G) (B : Nat) (K : Nat → ClassId) (f : St) (q : Nat → Nat) (n na : Nat) (h0 : f (q 0) = some (.inr (6, [.ref (q 1), .ref (q 2), .ref (q 3), .ref (q 4), .ref (q 5), .ref (q 6), .int (nI n), .int (nI na)]))) (hn : n < 40) : Kc l D B K yX8_isFull cX8_isFull 1 ((some .boolean)) 0 0 0 [.ref (q 0)] f (Qi_ D B (fun r f9 => r = 0 ∧ f9 = f)) := by
  refine v_met [(0, .ref (q 0))] (by decide) (Nat.le_of_ble_eq_true rfl) rfl ?_
  intro p e s m args below meth c C hr hlk hin
  refine v_aload_n C dX8_isFull_0 rfl rfl ?_
  refine v_get C dX8_isFull_1 6 h0 rfl in_X8 (by decide) g_fl_X8_40 (fun _ h9 => h9) rfl ?_
  refine v_bipush (v := 40) C dX8_isFull_4 (by decide) ?_
  refine v_icmp_lt (tgt := 13) C dX8_isFull_6 (by decide) (fun c_6 => ?_) (fun c_6 => absurd (show nI n < 40 from (nI_ltI (b := 40) (by omega) (by omega)).mpr hn) c_6)
  refine v_iconst (v := 0) C dX8_isFull_13 (by decide) ?_
  exact v_zret C hr hlk dX8_isFull_14 rfl (Nat.le_refl _) (Nat.le_refl _) ⟨rfl, rfl⟩

set_option maxHeartbeats 4000000 in
set_option maxRecDepth 100000 in
theorem c_isFull_yes (l : Launch) (D : va_G) (B : Nat) (K : Nat → ClassId) (f : St) (q : Nat → Nat) (n na : Nat) (h0 : f (q 0) = some (.inr (6, [.ref (q 1), .ref (q 2), .ref (q 3), .ref (q 4), .ref (q 5), .ref (q 6), .int (nI n), .int (nI na)]))) (hn : n = 40) : Kc l D B K yX8_isFull cX8_isFull 1 ((some .boolean)) 0 0 0 [.ref (q 0)] f (Qi_ D B (fun r f9 => r = 1 ∧ f9 = f)) := by
  refine v_met [(0, .ref (q 0))] (by decide) (Nat.le_of_ble_eq_true rfl) rfl ?_
  intro p e s m args below meth c C hr hlk hin
  refine v_aload_n C dX8_isFull_0 rfl rfl ?_
  refine v_get C dX8_isFull_1 6 h0 rfl in_X8 (by decide) g_fl_X8_40 (fun _ h9 => h9) rfl ?_
  refine v_bipush (v := 40) C dX8_isFull_4 (by decide) ?_
  refine v_icmp_lt (tgt := 13) C dX8_isFull_6 (by decide) (fun c_6 => absurd c_6 (by rw [hn]; decide)) (fun c_6 => ?_)
  refine v_iconst (v := 1) C dX8_isFull_9 (by decide) ?_
  refine v_goto (tgt := 14) C dX8_isFull_10 (by decide) ?_
  exact v_zret C hr hlk dX8_isFull_14 rfl (Nat.le_refl _) (Nat.le_refl _) ⟨rfl, rfl⟩

def addF (K : Nat → ClassId) (q : Nat → Nat) (f : St) (n na : Nat) (g : Nat → Option Nat) (b : Nat) : St := va_up (va_up f (q 4) (some (.inl (K 3, 40, .inr (.inr (.inr (.inr (va_up g n (some b))))))))) (q 0) (some (.inr (6, [.ref (q 1), .ref (q 2), .ref (q 3), .ref (q 4), .ref (q 5), .ref (q 6), .int (nI (n + 1)), .int (nI na)])))
set_option maxHeartbeats 4000000 in
set_option maxRecDepth 100000 in
theorem c_add_X0 (l : Launch) (D : va_G) (B : Nat) (K : Nat → ClassId) (f : St) (q : Nat → Nat) (n na : Nat) (g : Nat → Option Nat) (b : Nat) (num : Int32) (x1 x2 x3 x4 : Value) (h0 : f (q 0) = some (.inr (6, [.ref (q 1), .ref (q 2), .ref (q 3), .ref (q 4), .ref (q 5), .ref (q 6), .int (nI n), .int (nI na)]))) (h4 : f (q 4) = some (.inl (K 3, 40, .inr (.inr (.inr (.inr (g))))))) (hn : n < 40) (hq : ∀ i j, i < 15 → j < 15 → q i = q j → i = j) (hb : ∀ j, j < 15 → b ≠ q j) (hv : f b = some (.inr (0, [.int num, x1, x2, x3, x4]))) : Kc l D B K yX8_add cX8_add 2 ((some .int)) 0 0 0 [.ref (q 0), .ref b] f (Qi_ D B (fun r f9 => r = num ∧ f9 = addF K q f n na g b)) := by
  refine v_met [(0, .ref (q 0)), (1, .ref b)] (by decide) (Nat.le_of_ble_eq_true rfl) rfl ?_
  intro p e s m args below meth c C hr hlk hin
  have h01 : va_up f (q 4) (some (.inl (K 3, 40, .inr (.inr (.inr (.inr (va_up g n (some b)))))))) (q 0) = some (.inr (6, [.ref (q 1), .ref (q 2), .ref (q 3), .ref (q 4), .ref (q 5), .ref (q 6), .int (nI n), .int (nI na)])) := by rw [va_up_ne _ _ (fun e9 => absurd (hq 0 4 (by decide) (by decide) e9) (by decide))]; exact h0
  have hv2 : va_up (va_up f (q 4) (some (.inl (K 3, 40, .inr (.inr (.inr (.inr (va_up g n (some b))))))))) (q 0) (some (.inr (6, [.ref (q 1), .ref (q 2), .ref (q 3), .ref (q 4), .ref (q 5), .ref (q 6), .int (nI (n + 1)), .int (nI na)]))) b = some (.inr (0, [.int num, x1, x2, x3, x4])) := by rw [va_up_ne _ _ (hb 0 (by decide)), va_up_ne _ _ (hb 4 (by decide))]; exact hv
  refine v_aload_n C dX8_add_0 rfl rfl ?_
  refine v_get C dX8_add_1 3 h0 rfl in_X8 (by decide) g_fl_X8_28 (fun _ h9 => h9) rfl ?_
  refine v_aload_n C dX8_add_4 rfl rfl ?_
  refine v_get C dX8_add_5 6 h0 rfl in_X8 (by decide) g_fl_X8_40 (fun _ h9 => h9) rfl ?_
  refine v_aload_n C dX8_add_8 rfl rfl ?_
  refine v_ast C dX8_add_9 h4 hv rfl (by decide +kernel) (vp_in_nI (by omega) (by omega)) ?_
  rw [nI_clamp (show n < 2 ^ 31 by omega)]
  refine v_aload_n C dX8_add_10 rfl rfl ?_
  refine v_dup C dX8_add_11 rfl ?_
  refine v_get C dX8_add_12 6 h01 rfl in_X8 (by decide) g_fl_X8_40 (fun _ h9 => h9) rfl ?_
  refine v_iconst (v := 1) C dX8_add_15 (by decide) ?_
  refine v_iadd C dX8_add_16 ?_
  refine v_ri (nI_1 n) ?_
  refine v_put C dX8_add_17 6 h01 rfl in_X8 tyX8 tyX8_ok nmX8 (by decide) g_fl_X8_40 (fun _ h9 => h9) rfl (tyX_at tyX8_ok (by decide)) rfl rfl (Nat.le_of_ble_eq_true rfl) ?_
  refine v_aload_n C dX8_add_20 rfl rfl ?_
  refine v_get C dX8_add_21 0 hv2 rfl in_X0 (by decide) g_fl_X8_186 (fun _ h9 => h9) rfl ?_
  exact v_iret C hr hlk dX8_add_24 (Nat.le_refl _) (Nat.le_refl _) ⟨rfl, rfl⟩

set_option maxHeartbeats 4000000 in
set_option maxRecDepth 100000 in
theorem c_add_X1 (l : Launch) (D : va_G) (B : Nat) (K : Nat → ClassId) (f : St) (q : Nat → Nat) (n na : Nat) (g : Nat → Option Nat) (b : Nat) (num : Int32) (x1 x2 x3 x4 : Value) (h0 : f (q 0) = some (.inr (6, [.ref (q 1), .ref (q 2), .ref (q 3), .ref (q 4), .ref (q 5), .ref (q 6), .int (nI n), .int (nI na)]))) (h4 : f (q 4) = some (.inl (K 3, 40, .inr (.inr (.inr (.inr (g))))))) (hn : n < 40) (hq : ∀ i j, i < 15 → j < 15 → q i = q j → i = j) (hb : ∀ j, j < 15 → b ≠ q j) (hv : f b = some (.inr (1, [.int num, x1, x2, x3, x4]))) : Kc l D B K yX8_add cX8_add 2 ((some .int)) 0 0 0 [.ref (q 0), .ref b] f (Qi_ D B (fun r f9 => r = num ∧ f9 = addF K q f n na g b)) := by
  refine v_met [(0, .ref (q 0)), (1, .ref b)] (by decide) (Nat.le_of_ble_eq_true rfl) rfl ?_
  intro p e s m args below meth c C hr hlk hin
  have h01 : va_up f (q 4) (some (.inl (K 3, 40, .inr (.inr (.inr (.inr (va_up g n (some b)))))))) (q 0) = some (.inr (6, [.ref (q 1), .ref (q 2), .ref (q 3), .ref (q 4), .ref (q 5), .ref (q 6), .int (nI n), .int (nI na)])) := by rw [va_up_ne _ _ (fun e9 => absurd (hq 0 4 (by decide) (by decide) e9) (by decide))]; exact h0
  have hv2 : va_up (va_up f (q 4) (some (.inl (K 3, 40, .inr (.inr (.inr (.inr (va_up g n (some b))))))))) (q 0) (some (.inr (6, [.ref (q 1), .ref (q 2), .ref (q 3), .ref (q 4), .ref (q 5), .ref (q 6), .int (nI (n + 1)), .int (nI na)]))) b = some (.inr (1, [.int num, x1, x2, x3, x4])) := by rw [va_up_ne _ _ (hb 0 (by decide)), va_up_ne _ _ (hb 4 (by decide))]; exact hv
  refine v_aload_n C dX8_add_0 rfl rfl ?_
  refine v_get C dX8_add_1 3 h0 rfl in_X8 (by decide) g_fl_X8_28 (fun _ h9 => h9) rfl ?_
  refine v_aload_n C dX8_add_4 rfl rfl ?_
  refine v_get C dX8_add_5 6 h0 rfl in_X8 (by decide) g_fl_X8_40 (fun _ h9 => h9) rfl ?_
  refine v_aload_n C dX8_add_8 rfl rfl ?_
  refine v_ast C dX8_add_9 h4 hv rfl (by decide +kernel) (vp_in_nI (by omega) (by omega)) ?_
  rw [nI_clamp (show n < 2 ^ 31 by omega)]
  refine v_aload_n C dX8_add_10 rfl rfl ?_
  refine v_dup C dX8_add_11 rfl ?_
  refine v_get C dX8_add_12 6 h01 rfl in_X8 (by decide) g_fl_X8_40 (fun _ h9 => h9) rfl ?_
  refine v_iconst (v := 1) C dX8_add_15 (by decide) ?_
  refine v_iadd C dX8_add_16 ?_
  refine v_ri (nI_1 n) ?_
  refine v_put C dX8_add_17 6 h01 rfl in_X8 tyX8 tyX8_ok nmX8 (by decide) g_fl_X8_40 (fun _ h9 => h9) rfl (tyX_at tyX8_ok (by decide)) rfl rfl (Nat.le_of_ble_eq_true rfl) ?_
  refine v_aload_n C dX8_add_20 rfl rfl ?_
  refine v_get C dX8_add_21 0 hv2 rfl in_X1 (by decide) g_fl_X8_186 (fun _ h9 => h9) rfl ?_
  exact v_iret C hr hlk dX8_add_24 (Nat.le_refl _) (Nat.le_refl _) ⟨rfl, rfl⟩

set_option maxHeartbeats 4000000 in
set_option maxRecDepth 100000 in
theorem c_add_X4 (l : Launch) (D : va_G) (B : Nat) (K : Nat → ClassId) (f : St) (q : Nat → Nat) (n na : Nat) (g : Nat → Option Nat) (b : Nat) (num : Int32) (x1 x2 x3 x4 x5 : Value) (h0 : f (q 0) = some (.inr (6, [.ref (q 1), .ref (q 2), .ref (q 3), .ref (q 4), .ref (q 5), .ref (q 6), .int (nI n), .int (nI na)]))) (h4 : f (q 4) = some (.inl (K 3, 40, .inr (.inr (.inr (.inr (g))))))) (hn : n < 40) (hq : ∀ i j, i < 15 → j < 15 → q i = q j → i = j) (hb : ∀ j, j < 15 → b ≠ q j) (hv : f b = some (.inr (4, [.int num, x1, x2, x3, x4, x5]))) : Kc l D B K yX8_add cX8_add 2 ((some .int)) 0 0 0 [.ref (q 0), .ref b] f (Qi_ D B (fun r f9 => r = num ∧ f9 = addF K q f n na g b)) := by
  refine v_met [(0, .ref (q 0)), (1, .ref b)] (by decide) (Nat.le_of_ble_eq_true rfl) rfl ?_
  intro p e s m args below meth c C hr hlk hin
  have h01 : va_up f (q 4) (some (.inl (K 3, 40, .inr (.inr (.inr (.inr (va_up g n (some b)))))))) (q 0) = some (.inr (6, [.ref (q 1), .ref (q 2), .ref (q 3), .ref (q 4), .ref (q 5), .ref (q 6), .int (nI n), .int (nI na)])) := by rw [va_up_ne _ _ (fun e9 => absurd (hq 0 4 (by decide) (by decide) e9) (by decide))]; exact h0
  have hv2 : va_up (va_up f (q 4) (some (.inl (K 3, 40, .inr (.inr (.inr (.inr (va_up g n (some b))))))))) (q 0) (some (.inr (6, [.ref (q 1), .ref (q 2), .ref (q 3), .ref (q 4), .ref (q 5), .ref (q 6), .int (nI (n + 1)), .int (nI na)]))) b = some (.inr (4, [.int num, x1, x2, x3, x4, x5])) := by rw [va_up_ne _ _ (hb 0 (by decide)), va_up_ne _ _ (hb 4 (by decide))]; exact hv
  refine v_aload_n C dX8_add_0 rfl rfl ?_
  refine v_get C dX8_add_1 3 h0 rfl in_X8 (by decide) g_fl_X8_28 (fun _ h9 => h9) rfl ?_
  refine v_aload_n C dX8_add_4 rfl rfl ?_
  refine v_get C dX8_add_5 6 h0 rfl in_X8 (by decide) g_fl_X8_40 (fun _ h9 => h9) rfl ?_
  refine v_aload_n C dX8_add_8 rfl rfl ?_
  refine v_ast C dX8_add_9 h4 hv rfl (by decide +kernel) (vp_in_nI (by omega) (by omega)) ?_
  rw [nI_clamp (show n < 2 ^ 31 by omega)]
  refine v_aload_n C dX8_add_10 rfl rfl ?_
  refine v_dup C dX8_add_11 rfl ?_
  refine v_get C dX8_add_12 6 h01 rfl in_X8 (by decide) g_fl_X8_40 (fun _ h9 => h9) rfl ?_
  refine v_iconst (v := 1) C dX8_add_15 (by decide) ?_
  refine v_iadd C dX8_add_16 ?_
  refine v_ri (nI_1 n) ?_
  refine v_put C dX8_add_17 6 h01 rfl in_X8 tyX8 tyX8_ok nmX8 (by decide) g_fl_X8_40 (fun _ h9 => h9) rfl (tyX_at tyX8_ok (by decide)) rfl rfl (Nat.le_of_ble_eq_true rfl) ?_
  refine v_aload_n C dX8_add_20 rfl rfl ?_
  refine v_get C dX8_add_21 0 hv2 rfl in_X4 (by decide) g_fl_X8_186 (fun _ h9 => h9) rfl ?_
  exact v_iret C hr hlk dX8_add_24 (Nat.le_refl _) (Nat.le_refl _) ⟨rfl, rfl⟩

set_option maxHeartbeats 4000000 in
set_option maxRecDepth 100000 in
theorem c_add_X6 (l : Launch) (D : va_G) (B : Nat) (K : Nat → ClassId) (f : St) (q : Nat → Nat) (n na : Nat) (g : Nat → Option Nat) (b : Nat) (num : Int32) (x1 x2 x3 x4 x5 x6 : Value) (h0 : f (q 0) = some (.inr (6, [.ref (q 1), .ref (q 2), .ref (q 3), .ref (q 4), .ref (q 5), .ref (q 6), .int (nI n), .int (nI na)]))) (h4 : f (q 4) = some (.inl (K 3, 40, .inr (.inr (.inr (.inr (g))))))) (hn : n < 40) (hq : ∀ i j, i < 15 → j < 15 → q i = q j → i = j) (hb : ∀ j, j < 15 → b ≠ q j) (hv : f b = some (.inr (5, [.int num, x1, x2, x3, x4, x5, x6]))) : Kc l D B K yX8_add cX8_add 2 ((some .int)) 0 0 0 [.ref (q 0), .ref b] f (Qi_ D B (fun r f9 => r = num ∧ f9 = addF K q f n na g b)) := by
  refine v_met [(0, .ref (q 0)), (1, .ref b)] (by decide) (Nat.le_of_ble_eq_true rfl) rfl ?_
  intro p e s m args below meth c C hr hlk hin
  have h01 : va_up f (q 4) (some (.inl (K 3, 40, .inr (.inr (.inr (.inr (va_up g n (some b)))))))) (q 0) = some (.inr (6, [.ref (q 1), .ref (q 2), .ref (q 3), .ref (q 4), .ref (q 5), .ref (q 6), .int (nI n), .int (nI na)])) := by rw [va_up_ne _ _ (fun e9 => absurd (hq 0 4 (by decide) (by decide) e9) (by decide))]; exact h0
  have hv2 : va_up (va_up f (q 4) (some (.inl (K 3, 40, .inr (.inr (.inr (.inr (va_up g n (some b))))))))) (q 0) (some (.inr (6, [.ref (q 1), .ref (q 2), .ref (q 3), .ref (q 4), .ref (q 5), .ref (q 6), .int (nI (n + 1)), .int (nI na)]))) b = some (.inr (5, [.int num, x1, x2, x3, x4, x5, x6])) := by rw [va_up_ne _ _ (hb 0 (by decide)), va_up_ne _ _ (hb 4 (by decide))]; exact hv
  refine v_aload_n C dX8_add_0 rfl rfl ?_
  refine v_get C dX8_add_1 3 h0 rfl in_X8 (by decide) g_fl_X8_28 (fun _ h9 => h9) rfl ?_
  refine v_aload_n C dX8_add_4 rfl rfl ?_
  refine v_get C dX8_add_5 6 h0 rfl in_X8 (by decide) g_fl_X8_40 (fun _ h9 => h9) rfl ?_
  refine v_aload_n C dX8_add_8 rfl rfl ?_
  refine v_ast C dX8_add_9 h4 hv rfl (by decide +kernel) (vp_in_nI (by omega) (by omega)) ?_
  rw [nI_clamp (show n < 2 ^ 31 by omega)]
  refine v_aload_n C dX8_add_10 rfl rfl ?_
  refine v_dup C dX8_add_11 rfl ?_
  refine v_get C dX8_add_12 6 h01 rfl in_X8 (by decide) g_fl_X8_40 (fun _ h9 => h9) rfl ?_
  refine v_iconst (v := 1) C dX8_add_15 (by decide) ?_
  refine v_iadd C dX8_add_16 ?_
  refine v_ri (nI_1 n) ?_
  refine v_put C dX8_add_17 6 h01 rfl in_X8 tyX8 tyX8_ok nmX8 (by decide) g_fl_X8_40 (fun _ h9 => h9) rfl (tyX_at tyX8_ok (by decide)) rfl rfl (Nat.le_of_ble_eq_true rfl) ?_
  refine v_aload_n C dX8_add_20 rfl rfl ?_
  refine v_get C dX8_add_21 0 hv2 rfl in_X6 (by decide) g_fl_X8_186 (fun _ h9 => h9) rfl ?_
  exact v_iret C hr hlk dX8_add_24 (Nat.le_refl _) (Nat.le_refl _) ⟨rfl, rfl⟩

set_option maxHeartbeats 4000000 in
set_option maxRecDepth 100000 in
theorem c_placeOfHand (l : Launch) (D : va_G) (B : Nat) (K : Nat → ClassId) (f : St) (q : Nat → Nat) (n na : Nat) (fi : St) (sg : Nat → Sg) (E : Nat → List Ent) (ra : Nat → Nat) (kd : Nat → Int32) (i : Nat) (t x y z : Int32) (h : Nat → Int64) (h0 : f (q 0) = some (.inr (6, [.ref (q 1), .ref (q 2), .ref (q 3), .ref (q 4), .ref (q 5), .ref (q 6), .int (nI n), .int (nI na)]))) (hT : RT K sg E ra kd fi n) (hn : n ≤ 40) (hi : i < n) (hI : Imm fi f) (h1 : f (q 1) = some (.inr (2, [.ref (q 7)]))) (h7 : f (q 7) = some (.inl (K 1, 8, .inr (.inl h)))) (h3 : f (q 3) = some (.inr (3, [.int t, .int x, .int y, .int z]))) : Kc l D B K yX8_placeOfHand cX8_placeOfHand 2 ((some .long)) 43 0 0 [.ref (q 0), .ref (ra i)] f (Ql_ D B (fun r f9 => r = plR sg h (E i) 0 ∧ f9 = plF f (q 3) t 0 (missE sg h (E i) 0))) := by
  refine v_met [(0, .ref (q 0)), (1, .ref (ra i))] (by decide) (Nat.le_of_ble_eq_true rfl) rfl ?_
  intro p e s m args below meth c C hr hlk hin
  refine v_aload_n C dX8_placeOfHand_0 rfl rfl ?_
  refine v_aload_n C dX8_placeOfHand_1 rfl rfl ?_
  refine v_get C dX8_placeOfHand_2 0 h0 rfl in_X8 (by decide) g_fl_X8_10 (fun _ h9 => h9) rfl ?_
  refine v_iconst (v := 0) C dX8_placeOfHand_5 (by decide) ?_
  refine v_iconst (v := 0) C dX8_placeOfHand_6 (by decide) ?_
  refine v_aload_n C dX8_placeOfHand_7 rfl rfl ?_
  refine v_get C dX8_placeOfHand_8 2 h0 rfl in_X8 (by decide) g_fl_X8_22 (fun _ h9 => h9) rfl ?_
  refine v_place (i := i) (a := 0) (d := 0) C dX8_placeOfHand_11 (hT.2 i hi).1 (place_all l D B K hT i hi) hI h1 h7 h3 (by have h9 := (hT.2 i hi).2.1; omega) g_ml_X8_214 (rn_le (by omega)) rfl (Nat.le_of_ble_eq_true rfl) ⟨Nat.le_refl _, Nat.le_refl _⟩ ?_
  exact v_lret C hr hlk dX8_placeOfHand_14 (Nat.le_refl _) (Nat.le_refl _) ⟨rfl, rfl⟩

