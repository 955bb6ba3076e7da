/-! the reference: each call over the one state -/
theorem nm_in {v : Int32} : (¬ v < 1 ∧ ¬ 20 < v) ↔ ¬ inM v.toInt64 1 20 = 0 := by
  rw [in_0, i2l_toInt, Int32.lt_iff_toInt_lt, Int32.lt_iff_toInt_lt]
  have z1 : (1 : Int64).toInt = 1 := rfl
  have z2 : (20 : Int64).toInt = 20 := rfl
  have z3 : (1 : Int32).toInt = 1 := rfl
  have z4 : (20 : Int32).toInt = 20 := rfl
  rw [z1, z2, z3, z4]
  omega
theorem up_65 {v : Int32} : upC v 65535 = 0 ↔ inM v.toInt64 0 65535 = 0 := by
  have h := up_in (v := v) (m := 65535)
  have e : (65535 : Int32).toInt64 = 65535 := by decide
  rw [e] at h
  exact h
theorem up_7 {v : Int32} : upC v 7 = 0 ↔ inM v.toInt64 0 7 = 0 := by
  have h := up_in (v := v) (m := 7)
  have e : (7 : Int32).toInt64 = 7 := by decide
  rw [e] at h
  exact h
theorem st_in {v : Int32} : (¬ v < -1000000 ∧ v ≤ 1000000) ↔ ¬ inM v.toInt64 (-1000000) 1000000 = 0 := by
  rw [in_0, i2l_toInt, Int32.lt_iff_toInt_lt, Int32.le_iff_toInt_le]
  have z1 : (-1000000 : Int64).toInt = -1000000 := rfl
  have z2 : (1000000 : Int64).toInt = 1000000 := rfl
  have z3 : (-1000000 : Int32).toInt = -1000000 := rfl
  have z4 : (1000000 : Int32).toInt = 1000000 := rfl
  rw [z1, z2, z3, z4]
  omega
set_option maxHeartbeats 4000000 in
set_option maxRecDepth 100000 in
theorem j_wholes (l : Launch) (D : va_G) (B : Nat) (K : Nat → ClassId) (f : St) (r : Nat → Nat) (f0 : St) (S : AS) (hD : MD K r f0 f S) (a b : Int64) : Kc l D B K yX9_wholes cX9_wholes 5 ((some .int)) 4 0 0 [.ref (r 0), .long a, .long b] f (Qi_ D B (PM K r f (sWholes S a b))) := by
  obtain ⟨n, na, sg, E, kd, ⟨t, x, y, z⟩, h, bs, cl⟩ := S
  obtain ⟨A, L, I, hM, hD⟩ := hD
  have hM := hM.base
  have hD0 := hD
  obtain ⟨hI0, hn40, hR, hI13, hIm, hI17, hI18, hna, hB, hh, hok⟩ := hD
  show Kc _ _ _ _ _ _ _ _ _ _ _ _ _ (Qi_ D B (PM K r f (addQ (n, na, sg, E, kd, (t, x, y, z), h, bs, cl) (0, a, b, 1))))
  by_cases hn : n = 40
  · rw [show addQ (n, na, sg, E, kd, (t, x, y, z), h, bs, cl) (0, a, b, 1) = _ from ifp_t hn _ _]
    exact ki (m_wholes_full l D B K f r f A L I n a b hM hI0 hn) (fun a9 f9 h9 => by obtain ⟨e1, e2⟩ := h9; subst e1; subst e2; exact ⟨rfl, A, L, I, hM, hD0⟩)
  · rw [show addQ (n, na, sg, E, kd, (t, x, y, z), h, bs, cl) (0, a, b, 1) = _ from ifp_f hn _ _]
    have hn : n < 40 := by omega
    have hq : okS (0, a, b, 1) := ok_row (by decide) (by decide)
    exact ki (m_wholes_new l D B K f r f A L I n a b hM hI0 hn hq) (fun a9 f9 h9 => by obtain ⟨e1, e2⟩ := h9; subst e1; exact ⟨rfl, _, _, _, e2, md_single hD0 hn hq rfl⟩)

set_option maxHeartbeats 4000000 in
set_option maxRecDepth 100000 in
theorem j_signs (l : Launch) (D : va_G) (B : Nat) (K : Nat → ClassId) (f : St) (r : Nat → Nat) (f0 : St) (S : AS) (hD : MD K r f0 f S) (a b : Int32) : Kc l D B K yX9_signs cX9_signs 3 ((some .int)) 4 0 0 [.ref (r 0), .int a, .int b] f (Qi_ D B (PM K r f (sSigns S a b))) := by
  obtain ⟨n, na, sg, E, kd, ⟨t, x, y, z⟩, h, bs, cl⟩ := S
  obtain ⟨A, L, I, hM, hD⟩ := hD
  have hM := hM.base
  have hD0 := hD
  obtain ⟨hI0, hn40, hR, hI13, hIm, hI17, hI18, hna, hB, hh, hok⟩ := hD
  by_cases hin9 : ¬ upC a 65535 = 0 ∧ ¬ upC b 65535 = 0
  rotate_left
  · have e : sSigns (n, na, sg, E, kd, (t, x, y, z), h, bs, cl) a b = _ := ifp_f hin9 _ _
    rw [e]
    exact ki (m_signs_out l D B K f r f A L I n a b hM hI0 (fun h9 => hin9 ⟨fun h8 => h9.1 (up_65.mp h8), fun h8 => h9.2 (up_65.mp h8)⟩)) (fun a9 f9 h9 => by obtain ⟨e1, e2⟩ := h9; subst e1; subst e2; exact ⟨rfl, A, L, I, hM, hD0⟩)
  have e : sSigns (n, na, sg, E, kd, (t, x, y, z), h, bs, cl) a b = addQ (n, na, sg, E, kd, (t, x, y, z), h, bs, cl) (1, a.toInt64, b.toInt64, 1) := ifp_t hin9 _ _
  rw [e]
  by_cases hn : n = 40
  · rw [show addQ (n, na, sg, E, kd, (t, x, y, z), h, bs, cl) (1, a.toInt64, b.toInt64, 1) = _ from ifp_t hn _ _]
    exact ki (m_signs_full l D B K f r f A L I n a b hM hI0 ⟨fun h8 => hin9.1 (up_65.mpr h8), fun h8 => hin9.2 (up_65.mpr h8)⟩ hn) (fun a9 f9 h9 => by obtain ⟨e1, e2⟩ := h9; subst e1; subst e2; exact ⟨rfl, A, L, I, hM, hD0⟩)
  · rw [show addQ (n, na, sg, E, kd, (t, x, y, z), h, bs, cl) (1, a.toInt64, b.toInt64, 1) = _ from ifp_f hn _ _]
    have hn : n < 40 := by omega
    have hq : okS (1, a.toInt64, b.toInt64, 1) := ok_row (by decide) (by decide)
    exact ki (m_signs_new l D B K f r f A L I n a b hM hI0 ⟨fun h8 => hin9.1 (up_65.mpr h8), fun h8 => hin9.2 (up_65.mpr h8)⟩ hn hq) (fun a9 f9 h9 => by obtain ⟨e1, e2⟩ := h9; subst e1; exact ⟨rfl, _, _, _, e2, md_single hD0 hn hq rfl⟩)

set_option maxHeartbeats 4000000 in
set_option maxRecDepth 100000 in
theorem j_names (l : Launch) (D : va_G) (B : Nat) (K : Nat → ClassId) (f : St) (r : Nat → Nat) (f0 : St) (S : AS) (hD : MD K r f0 f S) (n9 a b : Int32) : Kc l D B K yX9_names cX9_names 4 ((some .int)) 4 0 0 [.ref (r 0), .int n9, .int a, .int b] f (Qi_ D B (PM K r f (sNames S n9 a b))) := by
  obtain ⟨n, na, sg, E, kd, ⟨t, x, y, z⟩, h, bs, cl⟩ := S
  obtain ⟨A, L, I, hM, hD⟩ := hD
  have hM := hM.base
  have hD0 := hD
  obtain ⟨hI0, hn40, hR, hI13, hIm, hI17, hI18, hna, hB, hh, hok⟩ := hD
  by_cases hin9 : ¬ n9 < 1 ∧ ¬ 20 < n9 ∧ ¬ upC a (n9 - 1) = 0 ∧ ¬ upC b (n9 - 1) = 0
  rotate_left
  · have e : sNames (n, na, sg, E, kd, (t, x, y, z), h, bs, cl) n9 a b = _ := ifp_f hin9 _ _
    rw [e]
    exact ki (m_names_out l D B K f r f A L I n n9 a b hM hI0 (fun h9 => hin9 ⟨(nm_in.mpr h9.1).1, (nm_in.mpr h9.1).2, fun h8 => h9.2.1 (up_in.mp h8), fun h8 => h9.2.2 (up_in.mp h8)⟩)) (fun a9 f9 h9 => by obtain ⟨e1, e2⟩ := h9; subst e1; subst e2; exact ⟨rfl, A, L, I, hM, hD0⟩)
  have e : sNames (n, na, sg, E, kd, (t, x, y, z), h, bs, cl) n9 a b = addQ (n, na, sg, E, kd, (t, x, y, z), h, bs, cl) (2, a.toInt64, b.toInt64, n9) := ifp_t hin9 _ _
  rw [e]
  by_cases hn : n = 40
  · rw [show addQ (n, na, sg, E, kd, (t, x, y, z), h, bs, cl) (2, a.toInt64, b.toInt64, n9) = _ from ifp_t hn _ _]
    exact ki (m_names_full l D B K f r f A L I n n9 a b hM hI0 ⟨nm_in.mp ⟨hin9.1, hin9.2.1⟩, fun h8 => hin9.2.2.1 (up_in.mpr h8), fun h8 => hin9.2.2.2 (up_in.mpr h8)⟩ hn) (fun a9 f9 h9 => by obtain ⟨e1, e2⟩ := h9; subst e1; subst e2; exact ⟨rfl, A, L, I, hM, hD0⟩)
  · rw [show addQ (n, na, sg, E, kd, (t, x, y, z), h, bs, cl) (2, a.toInt64, b.toInt64, n9) = _ from ifp_f hn _ _]
    have hn : n < 40 := by omega
    have hq : okS (2, a.toInt64, b.toInt64, n9) := ok_nam hin9
    exact ki (m_names_new l D B K f r f A L I n n9 a b hM hI0 ⟨nm_in.mp ⟨hin9.1, hin9.2.1⟩, fun h8 => hin9.2.2.1 (up_in.mpr h8), fun h8 => hin9.2.2.2 (up_in.mpr h8)⟩ hn hq) (fun a9 f9 h9 => by obtain ⟨e1, e2⟩ := h9; subst e1; exact ⟨rfl, _, _, _, e2, md_single hD0 hn hq rfl⟩)

set_option maxHeartbeats 4000000 in
set_option maxRecDepth 100000 in
theorem j_steps (l : Launch) (D : va_G) (B : Nat) (K : Nat → ClassId) (f : St) (r : Nat → Nat) (f0 : St) (S : AS) (hD : MD K r f0 f S) (a b : Int64) (s9 : Int32) : Kc l D B K yX9_steps cX9_steps 6 ((some .int)) 4 0 0 [.ref (r 0), .long a, .long b, .int s9] f (Qi_ D B (PM K r f (sSteps S a b s9))) := by
  obtain ⟨n, na, sg, E, kd, ⟨t, x, y, z⟩, h, bs, cl⟩ := S
  obtain ⟨A, L, I, hM, hD⟩ := hD
  have hM := hM.base
  have hD0 := hD
  obtain ⟨hI0, hn40, hR, hI13, hIm, hI17, hI18, hna, hB, hh, hok⟩ := hD
  by_cases hin9 : ¬ s9 = 0 ∧ ¬ s9 < -1000000 ∧ s9 ≤ 1000000
  rotate_left
  · have e : sSteps (n, na, sg, E, kd, (t, x, y, z), h, bs, cl) a b s9 = _ := ifp_f hin9 _ _
    rw [e]
    exact ki (m_steps_out l D B K f r f A L I n a b s9 hM hI0 (fun h9 => hin9 ⟨h9.2, (st_in.mpr h9.1).1, (st_in.mpr h9.1).2⟩)) (fun a9 f9 h9 => by obtain ⟨e1, e2⟩ := h9; subst e1; subst e2; exact ⟨rfl, A, L, I, hM, hD0⟩)
  have e : sSteps (n, na, sg, E, kd, (t, x, y, z), h, bs, cl) a b s9 = addQ (n, na, sg, E, kd, (t, x, y, z), h, bs, cl) (3, a, b, s9) := ifp_t hin9 _ _
  rw [e]
  by_cases hn : n = 40
  · rw [show addQ (n, na, sg, E, kd, (t, x, y, z), h, bs, cl) (3, a, b, s9) = _ from ifp_t hn _ _]
    exact ki (m_steps_full l D B K f r f A L I n a b s9 hM hI0 ⟨st_in.mp ⟨hin9.2.1, hin9.2.2⟩, hin9.1⟩ hn) (fun a9 f9 h9 => by obtain ⟨e1, e2⟩ := h9; subst e1; subst e2; exact ⟨rfl, A, L, I, hM, hD0⟩)
  · rw [show addQ (n, na, sg, E, kd, (t, x, y, z), h, bs, cl) (3, a, b, s9) = _ from ifp_f hn _ _]
    have hn : n < 40 := by omega
    have hq : okS (3, a, b, s9) := ok_row (by decide) hin9
    exact ki (m_steps_new l D B K f r f A L I n a b s9 hM hI0 ⟨st_in.mp ⟨hin9.2.1, hin9.2.2⟩, hin9.1⟩ hn hq) (fun a9 f9 h9 => by obtain ⟨e1, e2⟩ := h9; subst e1; exact ⟨rfl, _, _, _, e2, md_single hD0 hn hq rfl⟩)

set_option maxHeartbeats 4000000 in
set_option maxRecDepth 100000 in
theorem j_back (l : Launch) (D : va_G) (B : Nat) (K : Nat → ClassId) (f : St) (r : Nat → Nat) (f0 : St) (S : AS) (hD : MD K r f0 f S) (w : Int32) : Kc l D B K yX9_back cX9_back 3 ((some .int)) 4 0 0 [.ref (r 0), .int w] f (Qi_ D B (PM K r f (sBack S w))) := by
  obtain ⟨n, na, sg, E, kd, ⟨t, x, y, z⟩, h, bs, cl⟩ := S
  obtain ⟨A, L, I, hM, hD⟩ := hD
  have hM := hM.base
  have hD0 := hD
  obtain ⟨hI0, hn40, hR, hI13, hIm, hI17, hI18, hna, hB, hh, hok⟩ := hD
  by_cases hx : bad w n
  · have e : sBack (n, na, sg, E, kd, (t, x, y, z), h, bs, cl) w = _ := ifp_t hx _ _
    rw [e]
    exact ki (m_back_bad l D B K f r f A L I n hM hI0 hn40 w hx) (fun a9 f9 h9 => by obtain ⟨e1, e2⟩ := h9; subst e1; subst e2; exact ⟨rfl, A, L, I, hM, hD0⟩)
  · obtain ⟨i, hi, rfl, hix⟩ := ok_of (by omega) hx
    obtain ⟨ak, ap, hz, hrow, hti0⟩ := hR i hi
    have e0 : sBack (n, na, sg, E, kd, (t, x, y, z), h, bs, cl) (nI i) = _ := ifp_f hx _ _
    rw [hix] at e0
    by_cases hb : 9223372036854775808 ≤ prodE sg (E i)
    · rw [e0, ifp_t hb]
      exact ki (m_back_many l D B K f r f A L I n hM hI0 hn40 sg (E i) i hi hz hb) (fun a9 f9 h9 => by obtain ⟨e1, e2⟩ := h9; subst e1; subst e2; exact ⟨rfl, A, L, I, hM, hD0⟩)
    · rw [e0, ifp_f hb]
      have hb : prodE sg (E i) < 9223372036854775808 := by omega
      by_cases hn : n = 40
      · rw [ifp_t hn]
        exact ki (m_back_full l D B K f r f A L I n hM hI0 hn40 sg (E i) i hi hz hb hn) (fun a9 f9 h9 => by obtain ⟨e1, e2⟩ := h9; subst e1; subst e2; exact ⟨rfl, A, L, I, hM, hD0⟩)
      · rw [ifp_f hn]
        have hn : n < 40 := by omega
        refine ki (m_back_new l D B K f r f A L I n hM hI0 hn40 sg (E i) i hi hz hrow hb hn) (fun a9 f9 h9 => ?_)
        obtain ⟨e1, A2, hT, hr2, hM2⟩ := h9
        subst e1
        refine ⟨rfl, _, _, _, hM2, md_rest (m := 1) hD0 hn hT.bg rfl hr2 (fun h9 e he _ => ?_)⟩
        obtain ⟨e2, he2, e3⟩ := List.mem_map.mp he
        rw [prod_map sg _ (g := flipE) (fun _ => rfl)] at h9
        have h8 := cnt_le h9 he2
        rw [← e3]
        show cntS (sg e2.1) < _
        omega

theorem ti_app {sg : Nat → Sg} {l1 l2 : List Ent} (h1 : 0 < prodE sg l1 → ∀ e ∈ l1, e.2.1 = true → cntS (sg e.1) < 9223372036854775808) (h2 : 0 < prodE sg l2 → ∀ e ∈ l2, e.2.1 = true → cntS (sg e.1) < 9223372036854775808) : 0 < prodE sg (l1 ++ l2) → ∀ e ∈ l1 ++ l2, e.2.1 = true → cntS (sg e.1) < 9223372036854775808 := fun hp e he ht => by
  rw [prod_app] at hp
  rcases List.mem_append.mp he with q | q
  · exact h1 (Nat.pos_of_mul_pos_right hp) e q ht
  · exact h2 (Nat.pos_of_mul_pos_left hp) e q ht
theorem ti_deep {sg : Nat → Sg} {l : List Ent} (h : 0 < prodE sg l → ∀ e ∈ l, e.2.1 = true → cntS (sg e.1) < 9223372036854775808) : 0 < prodE sg (l.map deepE) → ∀ e ∈ l.map deepE, e.2.1 = true → cntS (sg e.1) < 9223372036854775808 := fun hp e he ht => by
  rw [prod_map sg _ (g := deepE) (fun _ => rfl)] at hp
  obtain ⟨e2, he2, e3⟩ := List.mem_map.mp he
  rw [← e3] at ht ⊢
  exact h hp e2 he2 ht
theorem fmE2 (E : Nat → List Ent) (i j : Nat) : ([i, j] : List Nat).flatMap E = E i ++ E j := by simp
theorem fmE3 (E : Nat → List Ent) (i j k : Nat) : ([i, j, k] : List Nat).flatMap E = E i ++ E j ++ E k := by simp
set_option maxHeartbeats 4000000 in
set_option maxRecDepth 100000 in
theorem j_pair (l : Launch) (D : va_G) (B : Nat) (K : Nat → ClassId) (f : St) (r : Nat → Nat) (f0 : St) (S : AS) (hD : MD K r f0 f S) (w w2 : Int32) : Kc l D B K yX9_pair cX9_pair 4 ((some .int)) 4 0 0 [.ref (r 0), .int w, .int w2] f (Qi_ D B (PM K r f (sPair S w w2))) := by
  obtain ⟨n, na, sg, E, kd, ⟨t, x, y, z⟩, h, bs, cl⟩ := S
  obtain ⟨A, L, I, hM, hD⟩ := hD
  have hM := hM.base
  have hD0 := hD
  obtain ⟨hI0, hn40, hR, hI13, hIm, hI17, hI18, hna, hB, hh, hok⟩ := hD
  by_cases hx : bad w n ∨ bad w2 n
  · have e : sPair (n, na, sg, E, kd, (t, x, y, z), h, bs, cl) w w2 = _ := ifp_t hx _ _
    rw [e]
    by_cases hg0 : bad w n
    · exact ki (m_pair_bad0 l D B K f r f A L I n hM hI0 hn40 w hg0 w2) (fun a9 f9 h9 => by obtain ⟨e1, e2⟩ := h9; subst e1; subst e2; exact ⟨rfl, A, L, I, hM, hD0⟩)
    · obtain ⟨i0, hi0, hw0, _⟩ := ok_of (by omega) hg0
      subst hw0
      by_cases hg1 : bad w2 n
      · exact ki (m_pair_bad1 l D B K f r f A L I n hM hI0 hn40 i0 hi0 w2 hg1) (fun a9 f9 h9 => by obtain ⟨e1, e2⟩ := h9; subst e1; subst e2; exact ⟨rfl, A, L, I, hM, hD0⟩)
      · obtain ⟨i1, hi1, hw1, _⟩ := ok_of (by omega) hg1
        subst hw1
        exact absurd hx (by simp only [not_or]; exact ⟨hg0, hg1⟩)
  · obtain ⟨i, hi, hw0, hix0⟩ := ok_of (n := n) (by omega) (fun h9 => hx (Or.inl h9))
    obtain ⟨ak1, ap1, hz1, hr1, ht1⟩ := hR i hi
    obtain ⟨j, hj, hw1, hix1⟩ := ok_of (n := n) (by omega) (fun h9 => hx (Or.inr h9))
    obtain ⟨ak2, ap2, hz2, hr2, ht2⟩ := hR j hj
    have e0 : sPair (n, na, sg, E, kd, (t, x, y, z), h, bs, cl) w w2 = _ := ifp_f hx _ _
    rw [hix0, hix1, fmE2] at e0
    rw [e0]
    subst hw0
    subst hw1
    by_cases hw9 : 8 < (E i ++ E j).length
    · rw [ifp_t hw9]
      exact ki (m_pair_state l D B K f r f A L I n hM hI0 hn40 sg (E i) i hi hr1 (E j) j hj hr2 (by rw [List.length_append] at hw9; omega)) (fun a9 f9 h9 => by obtain ⟨e1, e2⟩ := h9; subst e1; subst e2; exact ⟨rfl, A, L, I, hM, hD0⟩)
    · rw [ifp_f hw9]
      by_cases hn : n = 40
      · rw [ifp_t hn]
        exact ki (m_pair_full l D B K f r f A L I n hM hI0 hn40 sg (E i) i hi hr1 (E j) j hj hr2 (by rw [List.length_append] at hw9; omega) hn) (fun a9 f9 h9 => by obtain ⟨e1, e2⟩ := h9; subst e1; subst e2; exact ⟨rfl, A, L, I, hM, hD0⟩)
      · rw [ifp_f hn]
        have hn : n < 40 := by omega
        refine ki (m_pair_new l D B K f r f A L I n hM hI0 hn40 sg (E i) i hi hr1 (E j) j hj hr2 (by rw [List.length_append] at hw9; omega) hn) (fun a9 f9 h9 => ?_)
        obtain ⟨e1, A2, A3, hT1, hT2, hr9, hM2⟩ := h9
        subst e1
        exact ⟨rfl, _, _, _, hM2, md_rest (m := 2) hD0 hn (hT1.bg.tk hT2) rfl hr9 (ti_deep (ti_app ht1 ht2))⟩

set_option maxHeartbeats 4000000 in
set_option maxRecDepth 100000 in
theorem j_triple (l : Launch) (D : va_G) (B : Nat) (K : Nat → ClassId) (f : St) (r : Nat → Nat) (f0 : St) (S : AS) (hD : MD K r f0 f S) (w w2 w3 : Int32) : Kc l D B K yX9_triple cX9_triple 5 ((some .int)) 4 0 0 [.ref (r 0), .int w, .int w2, .int w3] f (Qi_ D B (PM K r f (sTriple S w w2 w3))) := by
  obtain ⟨n, na, sg, E, kd, ⟨t, x, y, z⟩, h, bs, cl⟩ := S
  obtain ⟨A, L, I, hM, hD⟩ := hD
  have hM := hM.base
  have hD0 := hD
  obtain ⟨hI0, hn40, hR, hI13, hIm, hI17, hI18, hna, hB, hh, hok⟩ := hD
  by_cases hx : bad w n ∨ bad w2 n ∨ bad w3 n
  · have e : sTriple (n, na, sg, E, kd, (t, x, y, z), h, bs, cl) w w2 w3 = _ := ifp_t hx _ _
    rw [e]
    by_cases hg0 : bad w n
    · exact ki (m_triple_bad0 l D B K f r f A L I n hM hI0 hn40 w hg0 w2 w3) (fun a9 f9 h9 => by obtain ⟨e1, e2⟩ := h9; subst e1; subst e2; exact ⟨rfl, A, L, I, hM, hD0⟩)
    · obtain ⟨i0, hi0, hw0, _⟩ := ok_of (by omega) hg0
      subst hw0
      by_cases hg1 : bad w2 n
      · exact ki (m_triple_bad1 l D B K f r f A L I n hM hI0 hn40 i0 hi0 w2 hg1 w3) (fun a9 f9 h9 => by obtain ⟨e1, e2⟩ := h9; subst e1; subst e2; exact ⟨rfl, A, L, I, hM, hD0⟩)
      · obtain ⟨i1, hi1, hw1, _⟩ := ok_of (by omega) hg1
        subst hw1
        by_cases hg2 : bad w3 n
        · exact ki (m_triple_bad2 l D B K f r f A L I n hM hI0 hn40 i0 hi0 i1 hi1 w3 hg2) (fun a9 f9 h9 => by obtain ⟨e1, e2⟩ := h9; subst e1; subst e2; exact ⟨rfl, A, L, I, hM, hD0⟩)
        · obtain ⟨i2, hi2, hw2, _⟩ := ok_of (by omega) hg2
          subst hw2
          exact absurd hx (by simp only [not_or]; exact ⟨hg0, hg1, hg2⟩)
  · obtain ⟨i, hi, hw0, hix0⟩ := ok_of (n := n) (by omega) (fun h9 => hx (Or.inl h9))
    obtain ⟨ak1, ap1, hz1, hr1, ht1⟩ := hR i hi
    obtain ⟨j, hj, hw1, hix1⟩ := ok_of (n := n) (by omega) (fun h9 => hx (Or.inr (Or.inl h9)))
    obtain ⟨ak2, ap2, hz2, hr2, ht2⟩ := hR j hj
    obtain ⟨k, hk, hw2, hix2⟩ := ok_of (n := n) (by omega) (fun h9 => hx (Or.inr (Or.inr h9)))
    obtain ⟨ak3, ap3, hz3, hr3, ht3⟩ := hR k hk
    have e0 : sTriple (n, na, sg, E, kd, (t, x, y, z), h, bs, cl) w w2 w3 = _ := ifp_f hx _ _
    rw [hix0, hix1, hix2, fmE3] at e0
    rw [e0]
    subst hw0
    subst hw1
    subst hw2
    by_cases hw9 : 8 < (E i ++ E j ++ E k).length
    · rw [ifp_t hw9]
      exact ki (m_triple_state l D B K f r f A L I n hM hI0 hn40 sg (E i) i hi hr1 (E j) j hj hr2 (E k) k hk hr3 (by rw [List.length_append, List.length_append] at hw9; omega)) (fun a9 f9 h9 => by obtain ⟨e1, e2⟩ := h9; subst e1; subst e2; exact ⟨rfl, A, L, I, hM, hD0⟩)
    · rw [ifp_f hw9]
      by_cases hn : n = 40
      · rw [ifp_t hn]
        exact ki (m_triple_full l D B K f r f A L I n hM hI0 hn40 sg (E i) i hi hr1 (E j) j hj hr2 (E k) k hk hr3 (by rw [List.length_append, List.length_append] at hw9; omega) hn) (fun a9 f9 h9 => by obtain ⟨e1, e2⟩ := h9; subst e1; subst e2; exact ⟨rfl, A, L, I, hM, hD0⟩)
      · rw [ifp_f hn]
        have hn : n < 40 := by omega
        refine ki (m_triple_new l D B K f r f A L I n hM hI0 hn40 sg (E i) i hi hr1 (E j) j hj hr2 (E k) k hk hr3 (by rw [List.length_append, List.length_append] at hw9; omega) hn) (fun a9 f9 h9 => ?_)
        obtain ⟨e1, A2, A3, A4, hT1, hT2, hT3, hr9, hM2⟩ := h9
        subst e1
        exact ⟨rfl, _, _, _, hM2, md_rest (m := 3) hD0 hn ((hT1.bg.tk hT2).tk hT3) rfl hr9 (ti_deep (ti_app (ti_app ht1 ht2) ht3))⟩

set_option maxHeartbeats 4000000 in
set_option maxRecDepth 100000 in
theorem j_told (l : Launch) (D : va_G) (B : Nat) (K : Nat → ClassId) (f : St) (r : Nat → Nat) (f0 : St) (S : AS) (hD : MD K r f0 f S) (w v : Int32) : Kc l D B K yX9_told cX9_told 3 ((some .int)) 4 0 0 [.ref (r 0), .int w, .int v] f (Qi_ D B (PM K r f (sTold S w v))) := by
  obtain ⟨n, na, sg, E, kd, ⟨t, x, y, z⟩, h, bs, cl⟩ := S
  obtain ⟨A, L, I, hM, hD⟩ := hD
  have hM := hM.base
  have hD0 := hD
  obtain ⟨hI0, hn40, hR, hI13, hIm, hI17, hI18, hna, hB, hh, hok⟩ := hD
  by_cases hx : bad w n
  · have e : sTold (n, na, sg, E, kd, (t, x, y, z), h, bs, cl) w v = _ := ifp_t hx _ _
    rw [e]
    exact ki (m_told_bad l D B K f r f A L I n hM hI0 hn40 w hx v) (fun a9 f9 h9 => by obtain ⟨e1, e2⟩ := h9; subst e1; subst e2; exact ⟨rfl, A, L, I, hM, hD0⟩)
  · obtain ⟨i, hi, rfl, hix⟩ := ok_of (by omega) hx
    obtain ⟨ak, ap, hz, hrow, hti0⟩ := hR i hi
    have e0 : sTold (n, na, sg, E, kd, (t, x, y, z), h, bs, cl) (nI i) v = _ := ifp_f hx _ _
    rw [hix] at e0
    rw [e0]
    by_cases v0 : v = 0
    · subst v0
      exact ki (m_told_0 l D B K f r f A L I n hM hI0 hn40 i hi) (fun a9 f9 h9 => by obtain ⟨e1, e2⟩ := h9; subst e1; subst e2; exact ⟨ak, A, L, I, hM, hD0⟩)
    by_cases v1 : v = 1
    · subst v1
      exact ki (m_told_1 l D B K f r f A L I n hM hI0 hn40 i hi) (fun a9 f9 h9 => by obtain ⟨e1, e2⟩ := h9; subst e1; subst e2; exact ⟨hrow.1, A, L, I, hM, hD0⟩)
    by_cases v2 : v = 2
    · subst v2
      exact ki (m_told_2 l D B K f r f A L I n hM hI0 hn40 i hi) (fun a9 f9 h9 => by obtain ⟨e1, e2⟩ := h9; subst e1; subst e2; exact ⟨ap, A, L, I, hM, hD0⟩)
    by_cases v3 : v = 3
    · subst v3
      exact ki (m_told_3 l D B K f r f A L I n hM hI0 hn40 i hi) (fun a9 f9 h9 => by obtain ⟨e1, e2⟩ := h9; subst e1; subst e2; exact ⟨hrow.1, A, L, I, hM, hD0⟩)
    rw [if_neg v0, if_neg v1, if_neg v2, if_neg v3]
    exact ki (m_told_out l D B K f r f A L I n hM hI0 hn40 i hi v (w_out v0 v1 v2 v3)) (fun a9 f9 h9 => by obtain ⟨e1, e2⟩ := h9; subst e1; subst e2; exact ⟨rfl, A, L, I, hM, hD0⟩)

set_option maxHeartbeats 4000000 in
set_option maxRecDepth 100000 in
theorem j_size (l : Launch) (D : va_G) (B : Nat) (K : Nat → ClassId) (f : St) (r : Nat → Nat) (f0 : St) (S : AS) (hD : MD K r f0 f S) (w : Int32) : Kc l D B K yX9_size cX9_size 2 ((some .long)) 4 0 0 [.ref (r 0), .int w] f (Ql_ D B (PM K r f (sSize S w))) := by
  obtain ⟨n, na, sg, E, kd, ⟨t, x, y, z⟩, h, bs, cl⟩ := S
  obtain ⟨A, L, I, hM, hD⟩ := hD
  have hM := hM.base
  have hD0 := hD
  obtain ⟨hI0, hn40, hR, hI13, hIm, hI17, hI18, hna, hB, hh, hok⟩ := hD
  by_cases hx : bad w n
  · have e : sSize (n, na, sg, E, kd, (t, x, y, z), h, bs, cl) w = _ := ifp_t hx _ _
    rw [e]
    exact kl (m_size_bad l D B K f r f A L I n hM hI0 hn40 w hx) (fun a9 f9 h9 => by obtain ⟨e1, e2⟩ := h9; subst e1; subst e2; exact ⟨rfl, A, L, I, hM, hD0⟩)
  · obtain ⟨i, hi, rfl, hix⟩ := ok_of (by omega) hx
    obtain ⟨ak, ap, hz, hrow, hti0⟩ := hR i hi
    have e0 : sSize (n, na, sg, E, kd, (t, x, y, z), h, bs, cl) (nI i) = _ := ifp_f hx _ _
    rw [hix] at e0
    rw [e0]
    exact kl (m_size_ok l D B K f r f A L I n hM hI0 hn40 i hi) (fun a9 f9 h9 => by obtain ⟨e1, e2⟩ := h9; subst e1; subst e2; exact ⟨hz, A, L, I, hM, hD0⟩)

set_option maxHeartbeats 4000000 in
set_option maxRecDepth 100000 in
theorem j_has (l : Launch) (D : va_G) (B : Nat) (K : Nat → ClassId) (f : St) (r : Nat → Nat) (f0 : St) (S : AS) (hD : MD K r f0 f S) (w : Int32) : Kc l D B K yX9_has cX9_has 2 ((some .int)) 4 0 0 [.ref (r 0), .int w] f (Qi_ D B (PM K r f (sHas S w))) := by
  obtain ⟨n, na, sg, E, kd, ⟨t, x, y, z⟩, h, bs, cl⟩ := S
  obtain ⟨A, L, I, hM, hD⟩ := hD
  have hM := hM.base
  have hD0 := hD
  obtain ⟨hI0, hn40, hR, hI13, hIm, hI17, hI18, hna, hB, hh, hok⟩ := hD
  by_cases hx : bad w n
  · have e : sHas (n, na, sg, E, kd, (t, x, y, z), h, bs, cl) w = _ := ifp_t hx _ _
    rw [e]
    exact ki (m_has_bad l D B K f r f A L I n hM hI0 hn40 w hx) (fun a9 f9 h9 => by obtain ⟨e1, e2⟩ := h9; subst e1; subst e2; exact ⟨rfl, A, L, I, hM, hD0⟩)
  · obtain ⟨i, hi, rfl, hix⟩ := ok_of (by omega) hx
    obtain ⟨ak, ap, hz, hrow, hti0⟩ := hR i hi
    have e0 : sHas (n, na, sg, E, kd, (t, x, y, z), h, bs, cl) (nI i) = _ := ifp_f hx _ _
    rw [hix] at e0
    cases hm : missE sg h (E i) 0 with
    | none =>
      rw [hm, missM_n] at e0
      rw [e0]
      rw [← miss_congr hh (by have h9 := hrow.2.2.1; omega)] at hm
      exact ki (m_has_yes l D B K f r f A L I n hM hI0 hn40 sg (E i) i hi hrow hm) (fun a9 f9 h9 => by obtain ⟨e1, e2⟩ := h9; subst e1; subst e2; exact ⟨rfl, A, L, I, hM, hD0⟩)
    | some m9 =>
      rw [hm, missM_s] at e0
      rw [e0]
      rw [← miss_congr hh (by have h9 := hrow.2.2.1; omega)] at hm
      exact ki (m_has_no l D B K f r f A L I n hM hI0 hn40 sg (E i) i hi hrow m9.1 m9.2 hm) (fun a9 f9 h9 => by obtain ⟨e1, e2⟩ := h9; subst e1; exact ⟨rfl, _, _, _, e2, md_miss hD0 m9.1 m9.2⟩)

theorem ms_eq {w x y z m14 m15 m16 : Int32} {t : Nat} (ht : t < 2 ^ 31) (h : t ≠ 0 → m14 = x ∧ m15 = y ∧ m16 = z) : msM w (if t = 0 then 0 else 1) m14 m15 m16 = msC w (nI t) x y z := by
  have hu : (upC w 2 = 0 ↔ inM w.toInt64 0 2 = 0) := up_in
  unfold msM msC
  by_cases c1 : upC w 2 = 0
  · rw [if_pos c1, if_pos (hu.mp c1)]
  · rw [if_neg c1, if_neg (fun h9 => c1 (hu.mpr h9))]
    by_cases c2 : t = 0
    · rw [if_pos c2, if_pos rfl, if_pos (by rw [c2]; rfl)]
    · rw [if_neg c2, if_neg (by decide), if_neg (nI_ne0 (by omega) ht)]
      obtain ⟨e1, e2, e3⟩ := h c2
      rw [e1, e2, e3]
set_option maxHeartbeats 4000000 in
set_option maxRecDepth 100000 in
theorem j_miss (l : Launch) (D : va_G) (B : Nat) (K : Nat → ClassId) (f : St) (r : Nat → Nat) (f0 : St) (S : AS) (hD : MD K r f0 f S) (w : Int32) (ht : S.2.2.2.2.2.1.1 < 2 ^ 31) : Kc l D B K yX9_miss cX9_miss 2 ((some .int)) 4 0 0 [.ref (r 0), .int w] f (Qi_ D B (PM K r f (sMiss S w))) := by
  obtain ⟨n, na, sg, E, kd, ⟨t, x, y, z⟩, h, bs, cl⟩ := S
  obtain ⟨A, L, I, hM, hD⟩ := hD
  have hM := hM.base
  have hD0 := hD
  obtain ⟨hI0, hn40, hR, hI13, hIm, hI17, hI18, hna, hB, hh, hok⟩ := hD
  exact ki (m_miss l D B K f r f A L I hM w) (fun a9 f9 h9 => by obtain ⟨e1, e2⟩ := h9; subst e1; subst e2; exact ⟨by rw [hI13]; exact ms_eq ht hIm, A, L, I, hM, hD0⟩)

set_option maxHeartbeats 4000000 in
set_option maxRecDepth 100000 in
theorem j_within (l : Launch) (D : va_G) (B : Nat) (K : Nat → ClassId) (f : St) (r : Nat → Nat) (f0 : St) (S : AS) (hD : MD K r f0 f S) (w w2 : Int32) : Kc l D B K yX9_within cX9_within 5 ((some .int)) 4 0 0 [.ref (r 0), .int w, .int w2] f (Qi_ D B (PM K r f (sWithin S w w2))) := by
  obtain ⟨n, na, sg, E, kd, ⟨t, x, y, z⟩, h, bs, cl⟩ := S
  obtain ⟨A, L, I, hM, hD⟩ := hD
  have hM := hM.base
  have hD0 := hD
  obtain ⟨hI0, hn40, hR, hI13, hIm, hI17, hI18, hna, hB, hh, hok⟩ := hD
  by_cases hx : bad w n ∨ bad w2 n
  · have e : sWithin (n, na, sg, E, kd, (t, x, y, z), h, bs, cl) w w2 = _ := ifp_t hx _ _
    rw [e]
    by_cases hg0 : bad w n
    · exact ki (m_within_bad0 l D B K f r f A L I n hM hI0 hn40 w hg0 w2) (fun a9 f9 h9 => by obtain ⟨e1, e2⟩ := h9; subst e1; subst e2; exact ⟨rfl, A, L, I, hM, hD0⟩)
    · obtain ⟨i, hi, hw0, _⟩ := ok_of (by omega) hg0
      subst hw0
      exact ki (m_within_bad1 l D B K f r f A L I n hM hI0 hn40 i hi w2 (hx.resolve_left hg0)) (fun a9 f9 h9 => by obtain ⟨e1, e2⟩ := h9; subst e1; subst e2; exact ⟨rfl, A, L, I, hM, hD0⟩)
  · obtain ⟨i, hi, hw0, hix⟩ := ok_of (n := n) (by omega) (fun h9 => hx (Or.inl h9))
    obtain ⟨j, hj, hw1, hix2⟩ := ok_of (n := n) (by omega) (fun h9 => hx (Or.inr h9))
    have e0 : sWithin (n, na, sg, E, kd, (t, x, y, z), h, bs, cl) w w2 = _ := ifp_f hx _ _
    rw [hix, hix2] at e0
    rw [e0]
    subst hw0
    subst hw1
    exact ki (m_within_ok l D B K f r f A L I n hM hI0 hn40 sg (E i) (E j) i j hi hj (hR i hi).2.2.2.1 (hR j hj).2.2.2.1 (hR i hi).2.2.1) (fun a9 f9 h9 => by obtain ⟨e1, e2⟩ := h9; subst e1; subst e2; exact ⟨rfl, A, L, I, hM, hD0⟩)

set_option maxHeartbeats 4000000 in
set_option maxRecDepth 100000 in
theorem j_over (l : Launch) (D : va_G) (B : Nat) (K : Nat → ClassId) (f : St) (r : Nat → Nat) (f0 : St) (S : AS) (hD : MD K r f0 f S) (w : Int32) : Kc l D B K yX9_over cX9_over 2 ((some .int)) 4 0 0 [.ref (r 0), .int w] f (Qi_ D B (PM K r f (sOver S w))) := by
  obtain ⟨n, na, sg, E, kd, ⟨t, x, y, z⟩, h, bs, cl⟩ := S
  obtain ⟨A, L, I, hM, hD⟩ := hD
  have hM := hM.base
  have hD0 := hD
  obtain ⟨hI0, hn40, hR, hI13, hIm, hI17, hI18, hna, hB, hh, hok⟩ := hD
  by_cases hx : bad w na
  · have e : sOver (n, na, sg, E, kd, (t, x, y, z), h, bs, cl) w = _ := ifp_t hx _ _
    rw [e]
    exact ki (m_over_bad l D B K f r f A L I hM na hI18 hna w hx) (fun a9 f9 h9 => by obtain ⟨e1, e2⟩ := h9; subst e1; subst e2; exact ⟨rfl, A, L, I, hM, hD0⟩)
  · obtain ⟨a, ha, rfl, hix⟩ := ok_of (by omega) hx
    obtain ⟨hab, hi, hP, hcl⟩ := hB a ha
    obtain ⟨ak, ap, hz, hrow, hti0⟩ := hR _ hi
    have e0 : sOver (n, na, sg, E, kd, (t, x, y, z), h, bs, cl) (nI a) = _ := ifp_f hx _ _
    rw [hix] at e0
    rw [e0]
    exact ki (m_over_ok l D B K f r f A L I hM na hI18 hna a ha) (fun a9 f9 h9 => by obtain ⟨e1, e2⟩ := h9; subst e1; subst e2; exact ⟨hab, A, L, I, hM, hD0⟩)

set_option maxHeartbeats 4000000 in
set_option maxRecDepth 100000 in
theorem j_count (l : Launch) (D : va_G) (B : Nat) (K : Nat → ClassId) (f : St) (r : Nat → Nat) (f0 : St) (S : AS) (hD : MD K r f0 f S) (w : Int32) : Kc l D B K yX9_count cX9_count 4 ((some .int)) 4 0 0 [.ref (r 0), .int w] f (Qi_ D B (PM K r f (sCount S w))) := by
  obtain ⟨n, na, sg, E, kd, ⟨t, x, y, z⟩, h, bs, cl⟩ := S
  obtain ⟨A, L, I, hM, hD⟩ := hD
  have hM := hM.base
  have hD0 := hD
  obtain ⟨hI0, hn40, hR, hI13, hIm, hI17, hI18, hna, hB, hh, hok⟩ := hD
  have hps : ∀ a, a < na → A 19 a = nI (bs a) ∧ bs a < 40 ∧ L 4 (bs a) = sat (prodE sg (E (bs a))) ∧ prodE sg (E (bs a)) ≤ 400 := fun a ha => by
    obtain ⟨b1, b2, b3, b4⟩ := hB a ha
    exact ⟨b1, by omega, (hR _ b2).2.2.1, b3⟩
  by_cases v0 : w = 0
  · subst v0
    exact ki (m_count_0 l D B K f r f A L I hM na (fun a => prodE sg (E (bs a))) bs hI18 hna hps) (fun a9 f9 h9 => by obtain ⟨e1, e2⟩ := h9; subst e1; subst e2; exact ⟨hI0, A, L, I, hM, hD0⟩)
  by_cases v1 : w = 1
  · subst v1
    exact ki (m_count_1 l D B K f r f A L I hM na (fun a => prodE sg (E (bs a))) bs hI18 hna hps) (fun a9 f9 h9 => by obtain ⟨e1, e2⟩ := h9; subst e1; subst e2; exact ⟨hI18, A, L, I, hM, hD0⟩)
  by_cases v2 : w = 2
  · subst v2
    exact ki (m_count_2 l D B K f r f A L I hM na (fun a => prodE sg (E (bs a))) bs hI18 hna hps) (fun a9 f9 h9 => by obtain ⟨e1, e2⟩ := h9; subst e1; subst e2; exact ⟨hI17, A, L, I, hM, hD0⟩)
  by_cases v3 : w = 3
  · subst v3
    exact ki (m_count_3 l D B K f r f A L I hM na (fun a => prodE sg (E (bs a))) bs hI18 hna hps) (fun a9 f9 h9 => by obtain ⟨e1, e2⟩ := h9; subst e1; subst e2; exact ⟨rfl, A, L, I, hM, hD0⟩)
  have e : sCount (n, na, sg, E, kd, (t, x, y, z), h, bs, cl) w = (-102, (n, na, sg, E, kd, (t, x, y, z), h, bs, cl)) := by show ((if w = 0 then _ else if w = 1 then _ else if w = 2 then _ else if w = 3 then _ else _), _) = _; rw [if_neg v0, if_neg v1, if_neg v2, if_neg v3]
  rw [e]
  exact ki (m_count_out l D B K f r f A L I hM na w (fun a => prodE sg (E (bs a))) bs hI18 hna hps (w_out v0 v1 v2 v3)) (fun a9 f9 h9 => by obtain ⟨e1, e2⟩ := h9; subst e1; subst e2; exact ⟨rfl, A, L, I, hM, hD0⟩)

set_option maxHeartbeats 4000000 in
set_option maxRecDepth 100000 in
theorem j_clear (l : Launch) (D : va_G) (B : Nat) (K : Nat → ClassId) (f : St) (r : Nat → Nat) (f0 : St) (S : AS) (hD : MD K r f0 f S)  : Kc l D B K yX9_clear cX9_clear 3 ((some .int)) 4 0 0 [.ref (r 0)] f (Qi_ D B (PM K r f (sClear S))) := by
  obtain ⟨n, na, sg, E, kd, ⟨t, x, y, z⟩, h, bs, cl⟩ := S
  obtain ⟨A, L, I, hM, hD⟩ := hD
  have hM := hM.base
  have hD0 := hD
  obtain ⟨hI0, hn40, hR, hI13, hIm, hI17, hI18, hna, hB, hh, hok⟩ := hD
  have e : sClear (n, na, sg, E, kd, (t, x, y, z), h, bs, cl) = (nI n, (0, 0, sg, E, kd, (0, x, y, z), fun _ => 0, bs, cl)) := rfl
  rw [e]
  refine ki (m_clear l D B K f r f A L I hM) (fun a9 f9 h9 => ?_)
  obtain ⟨e1, g, hg, hM2⟩ := h9
  subst e1
  exact ⟨hI0, _, _, _, hM2, rfl, by omega, fun i hi => by omega, rfl, fun h9 => absurd rfl h9, rfl, rfl, by omega, fun a ha => by omega, hg, hok⟩

set_option maxHeartbeats 4000000 in
set_option maxRecDepth 100000 in
theorem j_sum (l : Launch) (D : va_G) (B : Nat) (K : Nat → ClassId) (f : St) (r : Nat → Nat) (f0 : St) (S : AS) (hD : MD K r f0 f S) (w u : Int32) (v : Int64) : Kc l D B K yX9_sum cX9_sum 9 ((some .long)) 4 0 0 [.ref (r 0), .int w, .int u, .long v] f (Ql_ D B (PM K r f (sSum S w u v))) := by
  obtain ⟨n, na, sg, E, kd, ⟨t, x, y, z⟩, h, bs, cl⟩ := S
  obtain ⟨A, L, I, hM, hD⟩ := hD
  have hM := hM.base
  have hD0 := hD
  obtain ⟨hI0, hn40, hR, hI13, hIm, hI17, hI18, hna, hB, hh, hok⟩ := hD
  by_cases hx : bad w na
  · have e : sSum (n, na, sg, E, kd, (t, x, y, z), h, bs, cl) w u v = _ := ifp_t hx _ _
    rw [e]
    exact kl (m_sum_bad l D B K f r f A L I hM na hI18 hna w hx u v) (fun a9 f9 h9 => by obtain ⟨e1, e2⟩ := h9; subst e1; subst e2; exact ⟨rfl, A, L, I, hM, hD0⟩)
  · obtain ⟨a, ha, rfl, hix⟩ := ok_of (by omega) hx
    obtain ⟨hab, hi, hP, hcl⟩ := hB a ha
    obtain ⟨ak, ap, hz, hrow, hti0⟩ := hR _ hi
    have hl8 := hrow.2.2.1
    have e0 : sSum (n, na, sg, E, kd, (t, x, y, z), h, bs, cl) (nI a) u v = _ := ifp_f hx _ _
    rw [hix] at e0
    rw [e0]
    by_cases hu : bad u (E (bs a)).length
    · rw [ifp_t hu]
      exact kl (m_sum_out l D B K f r f A L I hM n hn40 na hna a (bs a) ha hi hab sg (E (bs a)) hrow hI18 u v (nr_out hu (by omega))) (fun a9 f9 h9 => by obtain ⟨e1, e2⟩ := h9; subst e1; subst e2; exact ⟨rfl, A, L, I, hM, hD0⟩)
    · rw [ifp_f hu]
      obtain ⟨w9, hw, rfl, hiu⟩ := ok_of (by omega) hu
      rw [hiu]
      refine kl (m_sum_ok l D B K f r f A L I hM n hn40 na hna a (bs a) ha hi hab sg (E (bs a)) hrow hI18 hti0 hz hP w9 v hw) (fun a9 f9 h9 => ?_)
      obtain ⟨e1, g, hM2⟩ := h9
      subst e1
      exact ⟨sm_congr (fun j hj => hcl j (by omega)), _, _, _, hM2, hD0⟩

set_option maxHeartbeats 4000000 in
set_option maxRecDepth 100000 in
theorem j_hold (l : Launch) (D : va_G) (B : Nat) (K : Nat → ClassId) (f : St) (r : Nat → Nat) (f0 : St) (S : AS) (hD : MD K r f0 f S) (w : Int32) (v : Int64) : Kc l D B K yX9_hold cX9_hold 6 ((some .long)) 4 0 0 [.ref (r 0), .int w, .long v] f (Ql_ D B (PMt K r f (sHold S w v))) := by
  obtain ⟨n, na, sg, E, kd, ⟨t, x, y, z⟩, h, bs, cl⟩ := S
  obtain ⟨A, L, I, hM, hD⟩ := hD
  have hM := hM.base
  have hD0 := hD
  obtain ⟨hI0, hn40, hR, hI13, hIm, hI17, hI18, hna, hB, hh, hok⟩ := hD
  by_cases hx : upC w 7 = 0
  · have e : sHold (n, na, sg, E, kd, (t, x, y, z), h, bs, cl) w v = _ := ifp_t hx _ _
    rw [e]
    exact kl (m_hold_bad l D B K f r f A L I hM w v (up_7.mp hx)) (fun a9 f9 h9 => ⟨fun h8 => absurd h8 (show ¬ (1 : Int32) = 0 by decide), _, _, _, h9, hD0, rfl⟩)
  · have e : sHold (n, na, sg, E, kd, (t, x, y, z), h, bs, cl) w v = _ := ifp_f hx _ _
    rw [e]
    obtain ⟨j, hj, rfl, hix⟩ := ok_of (by decide) (up7 hx)
    rw [hix]
    exact kl (m_hold_ok l D B K f r f A L I hM j v hj (fun h8 => hx (up_7.mpr h8))) (fun a9 f9 h9 => by obtain ⟨e1, e2⟩ := h9; subst e1; exact ⟨fun _ => hh j hj, _, _, _, e2, md_hand hD0 _ _ (fun j9 hj9 => by unfold vp_updL; rw [hh j9 hj9]), rfl⟩)

set_option maxHeartbeats 4000000 in
set_option maxRecDepth 100000 in
theorem j_held (l : Launch) (D : va_G) (B : Nat) (K : Nat → ClassId) (f : St) (r : Nat → Nat) (f0 : St) (S : AS) (hD : MD K r f0 f S) (w : Int32) : Kc l D B K yX9_held cX9_held 2 ((some .long)) 4 0 0 [.ref (r 0), .int w] f (Ql_ D B (PMt K r f (sHeld S w))) := by
  obtain ⟨n, na, sg, E, kd, ⟨t, x, y, z⟩, h, bs, cl⟩ := S
  obtain ⟨A, L, I, hM, hD⟩ := hD
  have hM := hM.base
  have hD0 := hD
  obtain ⟨hI0, hn40, hR, hI13, hIm, hI17, hI18, hna, hB, hh, hok⟩ := hD
  by_cases hx : upC w 7 = 0
  · have e : sHeld (n, na, sg, E, kd, (t, x, y, z), h, bs, cl) w = _ := ifp_t hx _ _
    rw [e]
    exact kl (m_held_bad l D B K f r f A L I hM w (up_7.mp hx)) (fun a9 f9 h9 => ⟨fun h8 => absurd h8 (show ¬ (1 : Int32) = 0 by decide), _, _, _, h9, hD0, rfl⟩)
  · have e : sHeld (n, na, sg, E, kd, (t, x, y, z), h, bs, cl) w = _ := ifp_f hx _ _
    rw [e]
    obtain ⟨j, hj, rfl, hix⟩ := ok_of (by decide) (up7 hx)
    rw [hix]
    exact kl (m_held_ok l D B K f r f A L I hM j hj (fun h8 => hx (up_7.mpr h8))) (fun a9 f9 h9 => by obtain ⟨e1, e2⟩ := h9; subst e1; exact ⟨fun _ => hh j hj, _, _, _, e2, hD0, rfl⟩)

set_option maxHeartbeats 4000000 in
set_option maxRecDepth 100000 in
theorem j_index (l : Launch) (D : va_G) (B : Nat) (K : Nat → ClassId) (f : St) (r : Nat → Nat) (f0 : St) (S : AS) (hD : MD K r f0 f S) (w : Int32) : Kc l D B K yX9_index cX9_index 2 ((some .long)) 4 0 0 [.ref (r 0), .int w] f (Ql_ D B (PMt K r f (sIndex S w))) := by
  obtain ⟨n, na, sg, E, kd, ⟨t, x, y, z⟩, h, bs, cl⟩ := S
  obtain ⟨A, L, I, hM, hD⟩ := hD
  have hM := hM.base
  have hD0 := hD
  obtain ⟨hI0, hn40, hR, hI13, hIm, hI17, hI18, hna, hB, hh, hok⟩ := hD
  by_cases hx : bad w n
  · have e : sIndex (n, na, sg, E, kd, (t, x, y, z), h, bs, cl) w = _ := ifp_t hx _ _
    rw [e]
    exact kl (m_index_bad l D B K f r f A L I n hM hI0 hn40 w hx) (fun a9 f9 h9 => by obtain ⟨e1, e2⟩ := h9; subst e1; exact ⟨fun _ => rfl, _, _, _, e2, hD0, rfl⟩)
  · obtain ⟨i, hi, rfl, hix⟩ := ok_of (by omega) hx
    obtain ⟨ak, ap, hz, hrow, hti0⟩ := hR i hi
    have e0 : sIndex (n, na, sg, E, kd, (t, x, y, z), h, bs, cl) (nI i) = _ := ifp_f hx _ _
    rw [hix] at e0
    cases hm : missE sg h (E i) 0 with
    | none =>
      rw [hm, missM_n] at e0
      rw [e0]
      have hid : idxE sg (L 11) (E i) 0 0 = idxE sg h (E i) 0 0 := idx_congr hh (by have h9 := hrow.2.2.1; omega)
      rw [← miss_congr hh (by have h9 := hrow.2.2.1; omega)] at hm
      have hti := hti0 (prod_pos hok hm)
      exact kl (m_index_ok l D B K f r f A L I n hM hI0 hn40 sg (E i) i hi hrow hti hm) (fun a9 f9 h9 => by obtain ⟨e1, e2⟩ := h9; subst e1; exact ⟨fun _ => congrArg sat hid, _, _, _, e2, hD0, rfl⟩)
    | some m9 =>
      rw [hm, missM_s] at e0
      rw [e0]
      rw [← miss_congr hh (by have h9 := hrow.2.2.1; omega)] at hm
      exact kl (m_index_miss l D B K f r f A L I n hM hI0 hn40 sg (E i) i hi hrow m9.1 m9.2 hm) (fun a9 f9 h9 => ⟨fun h8 => absurd h8 (show ¬ (1 : Int32) = 0 by decide), _, _, _, h9, md_miss (I := up1 I 21 0) hD0 m9.1 m9.2, rfl⟩)

set_option maxHeartbeats 4000000 in
set_option maxRecDepth 100000 in
theorem j_element (l : Launch) (D : va_G) (B : Nat) (K : Nat → ClassId) (f : St) (r : Nat → Nat) (f0 : St) (S : AS) (hD : MD K r f0 f S) (w : Int32) (k : Int64) : Kc l D B K yX9_element cX9_element 4 ((some .int)) 4 0 0 [.ref (r 0), .int w, .long k] f (Qi_ D B (PMt K r f (sElement S w k))) := by
  obtain ⟨n, na, sg, E, kd, ⟨t, x, y, z⟩, h, bs, cl⟩ := S
  obtain ⟨A, L, I, hM, hD⟩ := hD
  have hM := hM.base
  have hD0 := hD
  obtain ⟨hI0, hn40, hR, hI13, hIm, hI17, hI18, hna, hB, hh, hok⟩ := hD
  by_cases hx : bad w n
  · have e : sElement (n, na, sg, E, kd, (t, x, y, z), h, bs, cl) w k = _ := ifp_t hx _ _
    rw [e]
    exact ki (m_element_bad l D B K f r f A L I n hM hI0 hn40 w hx k) (fun a9 f9 h9 => by obtain ⟨e1, e2⟩ := h9; subst e1; exact ⟨fun _ => rfl, _, _, _, e2, hD0, rfl⟩)
  · obtain ⟨i, hi, rfl, hix⟩ := ok_of (by omega) hx
    obtain ⟨ak, ap, hz, hrow, hti0⟩ := hR i hi
    have e0 : sElement (n, na, sg, E, kd, (t, x, y, z), h, bs, cl) (nI i) k = _ := ifp_f hx _ _
    rw [hix] at e0
    by_cases hk : rchS (prodE sg (E i)) k
    · rw [ifp_t hk] at e0
      rw [e0]
      have hti := hti0 (by have h9 := hk.2; omega)
      exact ki (m_element_ok l D B K f r f A L I n hM hI0 hn40 sg (E i) i hi hrow hti hz k hk) (fun a9 f9 h9 => by obtain ⟨e1, e2⟩ := h9; subst e1; exact ⟨fun _ => rfl, _, _, _, e2, md_hand hD0 _ _ (fil_congr hh), rfl⟩)
    · rw [ifp_f hk] at e0
      rw [e0]
      exact ki (m_element_no l D B K f r f A L I n hM hI0 hn40 sg (E i) i hi hrow hz k hk) (fun a9 f9 h9 => ⟨fun h8 => absurd h8 (show ¬ (1 : Int32) = 0 by decide), _, _, _, h9, hD0, rfl⟩)

set_option maxHeartbeats 4000000 in
set_option maxRecDepth 100000 in
theorem j_go (l : Launch) (D : va_G) (B : Nat) (K : Nat → ClassId) (f : St) (r : Nat → Nat) (f0 : St) (S : AS) (hD : MD K r f0 f S) (w : Int32) (k : Int64) : Kc l D B K yX9_go cX9_go 6 ((some .long)) 4 0 0 [.ref (r 0), .int w, .long k] f (Ql_ D B (PMt K r f (sGo S w k))) := by
  obtain ⟨n, na, sg, E, kd, ⟨t, x, y, z⟩, h, bs, cl⟩ := S
  obtain ⟨A, L, I, hM, hD⟩ := hD
  have hM := hM.base
  have hD0 := hD
  obtain ⟨hI0, hn40, hR, hI13, hIm, hI17, hI18, hna, hB, hh, hok⟩ := hD
  by_cases hx : bad w n
  · have e : sGo (n, na, sg, E, kd, (t, x, y, z), h, bs, cl) w k = _ := ifp_t hx _ _
    rw [e]
    exact kl (m_go_bad l D B K f r f A L I n hM hI0 hn40 w hx k) (fun a9 f9 h9 => by obtain ⟨e1, e2⟩ := h9; subst e1; exact ⟨fun _ => rfl, _, _, _, e2, hD0, rfl⟩)
  · obtain ⟨i, hi, rfl, hix⟩ := ok_of (by omega) hx
    obtain ⟨ak, ap, hz, hrow, hti0⟩ := hR i hi
    have e0 : sGo (n, na, sg, E, kd, (t, x, y, z), h, bs, cl) (nI i) k = _ := ifp_f hx _ _
    rw [hix] at e0
    cases hm : missE sg h (E i) 0 with
    | none =>
      rw [hm, missM_n] at e0
      have hid : idxE sg (L 11) (E i) 0 0 = idxE sg h (E i) 0 0 := idx_congr hh (by have h9 := hrow.2.2.1; omega)
      rw [← miss_congr hh (by have h9 := hrow.2.2.1; omega)] at hm
      have hti := hti0 (prod_pos hok hm)
      rw [← hid] at e0
      by_cases hb : 9223372036854775808 ≤ idxE sg (L 11) (E i) 0 0
      · rw [ifp_t hb] at e0
        rw [e0]
        exact kl (m_go_many l D B K f r f A L I n hM hI0 hn40 sg (E i) i hi hrow hti hm k hb) (fun a9 f9 h9 => by obtain ⟨e1, e2⟩ := h9; subst e1; exact ⟨fun _ => rfl, _, _, _, e2, hD0, rfl⟩)
      · rw [ifp_f hb] at e0
        have hb : idxE sg (L 11) (E i) 0 0 < 9223372036854775808 := by omega
        by_cases hk : 9223372036854775808 ≤ (idxE sg (L 11) (E i) 0 0 : Int) + k.toInt
        · rw [ifp_t hk] at e0
          rw [e0]
          exact kl (m_go_big l D B K f r f A L I n hM hI0 hn40 sg (E i) i hi hrow hti hm k hb hk) (fun a9 f9 h9 => ⟨fun h8 => absurd h8 (show ¬ (1 : Int32) = 0 by decide), _, _, _, h9, hD0, rfl⟩)
        · rw [ifp_f hk] at e0
          by_cases hk2 : rchS (prodE sg (E i)) (lN (idxE sg (L 11) (E i) 0 0) + k)
          · rw [ifp_t hk2] at e0
            rw [e0]
            exact kl (m_go_ok l D B K f r f A L I n hM hI0 hn40 sg (E i) i hi hrow hti hz hm k hb hk hk2) (fun a9 f9 h9 => by obtain ⟨e1, e2⟩ := h9; subst e1; exact ⟨fun _ => rfl, _, _, _, e2, md_hand hD0 _ _ (fil_congr hh), rfl⟩)
          · rw [ifp_f hk2] at e0
            rw [e0]
            exact kl (m_go_no l D B K f r f A L I n hM hI0 hn40 sg (E i) i hi hrow hti hz hm k hb hk hk2) (fun a9 f9 h9 => ⟨fun h8 => absurd h8 (show ¬ (1 : Int32) = 0 by decide), _, _, _, h9, hD0, rfl⟩)
    | some m9 =>
      rw [hm, missM_s] at e0
      rw [e0]
      rw [← miss_congr hh (by have h9 := hrow.2.2.1; omega)] at hm
      exact kl (m_go_miss l D B K f r f A L I n hM hI0 hn40 sg (E i) i hi hrow m9.1 m9.2 hm k) (fun a9 f9 h9 => ⟨fun h8 => absurd h8 (show ¬ (1 : Int32) = 0 by decide), _, _, _, h9, md_miss (I := up1 I 21 0) hD0 m9.1 m9.2, rfl⟩)

set_option maxHeartbeats 4000000 in
set_option maxRecDepth 100000 in
theorem j_array (l : Launch) (D : va_G) (B : Nat) (K : Nat → ClassId) (f : St) (r : Nat → Nat) (f0 : St) (S : AS) (hD : MD K r f0 f S) (w : Int32) : Kc l D B K yX9_array cX9_array 3 ((some .int)) 4 0 0 [.ref (r 0), .int w] f (Qi_ D B (PMt K r f (sArray S w))) := by
  obtain ⟨n, na, sg, E, kd, ⟨t, x, y, z⟩, h, bs, cl⟩ := S
  obtain ⟨A, L, I, hM, hD⟩ := hD
  have hM := hM.base
  have hD0 := hD
  obtain ⟨hI0, hn40, hR, hI13, hIm, hI17, hI18, hna, hB, hh, hok⟩ := hD
  by_cases hx : bad w n
  · have e : sArray (n, na, sg, E, kd, (t, x, y, z), h, bs, cl) w = _ := ifp_t hx _ _
    rw [e]
    exact ki (m_array_bad l D B K f r f A L I n hM hI0 hn40 w hx) (fun a9 f9 h9 => by obtain ⟨e1, e2⟩ := h9; subst e1; exact ⟨fun _ => rfl, _, _, _, e2, hD0, rfl⟩)
  · obtain ⟨i, hi, rfl, hix⟩ := ok_of (by omega) hx
    obtain ⟨ak, ap, hz, hrow, hti0⟩ := hR i hi
    have e0 : sArray (n, na, sg, E, kd, (t, x, y, z), h, bs, cl) (nI i) = _ := ifp_f hx _ _
    rw [hix] at e0
    by_cases hn6 : na = 6
    · rw [ifp_t hn6] at e0
      rw [e0]
      exact ki (m_array_room l D B K f r f A L I n hM hI0 hn40 i hi (prodE sg (E i)) hz na hI18 hna hn6) (fun a9 f9 h9 => by obtain ⟨e1, e2⟩ := h9; subst e1; exact ⟨fun _ => rfl, _, _, _, e2, hD0, rfl⟩)
    · rw [ifp_f hn6] at e0
      have hn6 : na < 6 := by omega
      by_cases hb : 9223372036854775808 ≤ prodE sg (E i)
      · rw [ifp_t hb] at e0
        rw [e0]
        exact ki (m_array_many l D B K f r f A L I n hM hI0 hn40 i hi (prodE sg (E i)) hz na hI18 hna hn6 hb) (fun a9 f9 h9 => ⟨fun h8 => absurd h8 (show ¬ (1 : Int32) = 0 by decide), _, _, _, h9, hD0, rfl⟩)
      · rw [ifp_f hb] at e0
        by_cases hb2 : 400 < prodE sg (E i)
        · rw [ifp_t hb2] at e0
          rw [e0]
          exact ki (m_array_big l D B K f r f A L I n hM hI0 hn40 i hi (prodE sg (E i)) hz na hI18 hna hn6 (by omega) hb2) (fun a9 f9 h9 => ⟨fun h8 => absurd h8 (show ¬ (2 : Int32) = 0 by decide), _, _, _, h9, hD0, rfl⟩)
        · rw [ifp_f hb2] at e0
          rw [e0]
          refine ki (m_array_ok l D B K f r f A L I n hM hI0 hn40 i hi (prodE sg (E i)) hz na hI18 hna hn6 (by omega)) (fun a9 f9 h9 => ?_)
          obtain ⟨e1, g, hg, hM2⟩ := h9
          subst e1
          exact ⟨fun _ => rfl, _, _, _, hM2, md_array (I := up1 (up1 I 21 0) 21 0) hD0 hn6 hi (by omega) hg, rfl⟩

set_option maxHeartbeats 4000000 in
set_option maxRecDepth 100000 in
theorem j_put (l : Launch) (D : va_G) (B : Nat) (K : Nat → ClassId) (f : St) (r : Nat → Nat) (f0 : St) (S : AS) (hD : MD K r f0 f S) (w v : Int32) : Kc l D B K yX9_put cX9_put 5 ((some .int)) 4 0 0 [.ref (r 0), .int w, .int v] f (Qi_ D B (PMt K r f (sPut S w v))) := by
  obtain ⟨n, na, sg, E, kd, ⟨t, x, y, z⟩, h, bs, cl⟩ := S
  obtain ⟨A, L, I, hM, hD⟩ := hD
  have hM := hM.base
  have hD0 := hD
  obtain ⟨hI0, hn40, hR, hI13, hIm, hI17, hI18, hna, hB, hh, hok⟩ := hD
  by_cases hx : bad w na
  · have e : sPut (n, na, sg, E, kd, (t, x, y, z), h, bs, cl) w v = _ := ifp_t hx _ _
    rw [e]
    exact ki (m_put_bad l D B K f r f A L I hM na hI18 hna w hx v) (fun a9 f9 h9 => by obtain ⟨e1, e2⟩ := h9; subst e1; exact ⟨fun _ => rfl, _, _, _, e2, hD0, rfl⟩)
  · obtain ⟨a, ha, rfl, hix⟩ := ok_of (by omega) hx
    obtain ⟨hab, hi, hP, hcl⟩ := hB a ha
    obtain ⟨ak, ap, hz, hrow, hti0⟩ := hR _ hi
    have hl8 := hrow.2.2.1
    have e0 : sPut (n, na, sg, E, kd, (t, x, y, z), h, bs, cl) (nI a) v = _ := ifp_f hx _ _
    rw [hix] at e0
    cases hm : missE sg h (E (bs a)) 0 with
    | none =>
      rw [hm, missM_n] at e0
      rw [e0]
      have hid : idxE sg (L 11) (E (bs a)) 0 0 = idxE sg h (E (bs a)) 0 0 := idx_congr hh (by omega)
      rw [← miss_congr hh (by omega)] at hm
      have hti := hti0 (prod_pos hok hm)
      have hix9 : idxE sg (L 11) (E (bs a)) 0 0 < 400 := Nat.lt_of_lt_of_le (idx_lt hok hm) hP
      rw [← hid]
      exact ki (m_put_ok l D B K f r f A L I hM n hn40 na hna a (bs a) ha hi hab sg (E (bs a)) hrow hI18 hti hm hix9 v) (fun a9 f9 h9 => by obtain ⟨e1, e2⟩ := h9; subst e1; exact ⟨fun _ => hcl _ hix9, _, _, _, e2, md_cell hD0 ha hix9 v, rfl⟩)
    | some m9 =>
      rw [hm, missM_s] at e0
      rw [e0]
      rw [← miss_congr hh (by omega)] at hm
      exact ki (m_put_miss l D B K f r f A L I hM n hn40 na hna a (bs a) ha hi hab sg (E (bs a)) hrow hI18 m9.1 m9.2 hm v) (fun a9 f9 h9 => ⟨fun h8 => absurd h8 (show ¬ (1 : Int32) = 0 by decide), _, _, _, h9, md_miss (I := up1 I 21 0) hD0 m9.1 m9.2, rfl⟩)

set_option maxHeartbeats 4000000 in
set_option maxRecDepth 100000 in
theorem j_at (l : Launch) (D : va_G) (B : Nat) (K : Nat → ClassId) (f : St) (r : Nat → Nat) (f0 : St) (S : AS) (hD : MD K r f0 f S) (w : Int32) : Kc l D B K yX9_at cX9_at 3 ((some .int)) 4 0 0 [.ref (r 0), .int w] f (Qi_ D B (PMt K r f (sAt S w))) := by
  obtain ⟨n, na, sg, E, kd, ⟨t, x, y, z⟩, h, bs, cl⟩ := S
  obtain ⟨A, L, I, hM, hD⟩ := hD
  have hM := hM.base
  have hD0 := hD
  obtain ⟨hI0, hn40, hR, hI13, hIm, hI17, hI18, hna, hB, hh, hok⟩ := hD
  by_cases hx : bad w na
  · have e : sAt (n, na, sg, E, kd, (t, x, y, z), h, bs, cl) w = _ := ifp_t hx _ _
    rw [e]
    exact ki (m_at_bad l D B K f r f A L I hM na hI18 hna w hx) (fun a9 f9 h9 => by obtain ⟨e1, e2⟩ := h9; subst e1; exact ⟨fun _ => rfl, _, _, _, e2, hD0, rfl⟩)
  · obtain ⟨a, ha, rfl, hix⟩ := ok_of (by omega) hx
    obtain ⟨hab, hi, hP, hcl⟩ := hB a ha
    obtain ⟨ak, ap, hz, hrow, hti0⟩ := hR _ hi
    have hl8 := hrow.2.2.1
    have e0 : sAt (n, na, sg, E, kd, (t, x, y, z), h, bs, cl) (nI a) = _ := ifp_f hx _ _
    rw [hix] at e0
    cases hm : missE sg h (E (bs a)) 0 with
    | none =>
      rw [hm, missM_n] at e0
      rw [e0]
      have hid : idxE sg (L 11) (E (bs a)) 0 0 = idxE sg h (E (bs a)) 0 0 := idx_congr hh (by omega)
      rw [← miss_congr hh (by omega)] at hm
      have hti := hti0 (prod_pos hok hm)
      have hix9 : idxE sg (L 11) (E (bs a)) 0 0 < 400 := Nat.lt_of_lt_of_le (idx_lt hok hm) hP
      rw [← hid]
      exact ki (m_at_ok l D B K f r f A L I hM n hn40 na hna a (bs a) ha hi hab sg (E (bs a)) hrow hI18 hti hm hix9) (fun a9 f9 h9 => by obtain ⟨e1, e2⟩ := h9; subst e1; exact ⟨fun _ => hcl _ hix9, _, _, _, e2, hD0, rfl⟩)
    | some m9 =>
      rw [hm, missM_s] at e0
      rw [e0]
      rw [← miss_congr hh (by omega)] at hm
      exact ki (m_at_miss l D B K f r f A L I hM n hn40 na hna a (bs a) ha hi hab sg (E (bs a)) hrow hI18 m9.1 m9.2 hm) (fun a9 f9 h9 => ⟨fun h8 => absurd h8 (show ¬ (1 : Int32) = 0 by decide), _, _, _, h9, md_miss (I := up1 I 21 0) hD0 m9.1 m9.2, rfl⟩)

set_option maxHeartbeats 4000000 in
set_option maxRecDepth 100000 in
theorem j_thrown (l : Launch) (D : va_G) (B : Nat) (K : Nat → ClassId) (f : St) (r : Nat → Nat) (f0 : St) (th : Int32) (S : AS) (hD : MDt K r f0 f th S) : Kc l D B K yX9_thrown cX9_thrown 1 (some .int) 4 0 0 [.ref (r 0)] f (Qi_ D B (fun a f9 => a = th ∧ f9 = f)) := by
  obtain ⟨n, na, sg, E, kd, ⟨t, x, y, z⟩, h, bs, cl⟩ := S
  obtain ⟨A, L, I, hM, hD, hth⟩ := hD
  exact ki (m_thrown l D B K f r f0 A L I hM) (fun a9 f9 h9 => ⟨h9.1.trans hth, h9.2⟩)
