/-! the program: each call that makes a range, over the one state -/
theorem ok_row {k s : Int32} {a b : Int64} (h2 : ¬ k = 2) (hs : ¬ s = 0 ∧ ¬ s < -1000000 ∧ s ≤ 1000000) : okS (k, a, b, s) := by
  refine ⟨fun h => absurd h h2, fun _ => ?_⟩
  simp only
  obtain ⟨h1, h3, h4⟩ := hs
  have z : (0 : Int32).toInt = 0 := rfl
  have z1 : (-1000000 : Int32).toInt = -1000000 := rfl
  have z2 : (1000000 : Int32).toInt = 1000000 := rfl
  rw [Int32.lt_iff_toInt_lt, z1] at h3
  rw [Int32.le_iff_toInt_le, z2] at h4
  exact ⟨fun h => h1 (Int32.toInt_inj.mp (h.trans z.symm)), by omega, by omega⟩
theorem ok_nam {n9 a b : Int32} (hs : ¬ n9 < 1 ∧ ¬ 20 < n9 ∧ ¬ upC a (n9 - 1) = 0 ∧ ¬ upC b (n9 - 1) = 0) : okS (2, a.toInt64, b.toInt64, n9) := by
  refine ⟨fun _ => ?_, fun h => absurd rfl h⟩
  simp only [i2l_toInt]
  obtain ⟨h1, h2, h3, h4⟩ := hs
  have z : (0 : Int32).toInt = 0 := rfl
  have z1 : (1 : Int32).toInt = 1 := rfl
  have z2 : (20 : Int32).toInt = 20 := rfl
  rw [Int32.lt_iff_toInt_lt, z1] at h1
  rw [Int32.lt_iff_toInt_lt, z2] at h2
  have e1 : (n9 - 1).toInt = n9.toInt - 1 := by
    rw [Int32.toInt_sub, z1]
    exact Int.bmod_eq_of_le (by omega) (by omega)
  have up : ∀ v : Int32, ¬ upC v (n9 - 1) = 0 → 0 ≤ v.toInt ∧ v.toInt < n9.toInt := fun v hv => by
    unfold upC at hv
    by_cases c1 : v < 0
    · rw [if_pos c1] at hv; exact absurd rfl hv
    · rw [if_neg c1] at hv
      by_cases c2 : n9 - 1 < v
      · rw [if_pos c2] at hv; exact absurd rfl hv
      · rw [Int32.lt_iff_toInt_lt, z] at c1
        rw [Int32.lt_iff_toInt_lt, e1] at c2
        omega
  have ha := up a h3
  have hb := up b h4
  omega
set_option maxHeartbeats 4000000 in
set_option maxRecDepth 100000 in
theorem k_wholes (l : Launch) (D : va_G) (B : Nat) (K : Nat → ClassId) (f : St) (q : Nat → Nat) (S : AS) (hC : CL K q f S) (a b : Int64) : Kc l D B K yX8_wholes cX8_wholes 5 ((some .int)) 50 1 7 [.ref (q 0), .long a, .long b] f (Qi_ D B (PC K q f (sWholes S a b))) := by
  obtain ⟨n, na, sg, E, kd, ⟨t, x, y, z⟩, h, bs, cl⟩ := S
  have hCL := hC
  obtain ⟨hh, cl2, ehh, ecl, fi, ra, g, gb, hs, hC⟩ := hC
  have hC0 := hC
  obtain ⟨⟨h0, h1, h2, h3, h4, h5, h6, h7, h8, hrow, hq⟩, hI, hfq, hT, hn40, hg, hna, hbs, hMKs⟩ := hC
  have hqs := cl_qs hC0.1
  show Kc _ _ _ _ _ _ _ _ _ _ _ _ _ (Qi_ D B (PC K q f (addQ (n, na, sg, E, kd, (t, x, y, z), h, bs, cl) (0, a, b, 1))))
  by_cases hn : n = 40
  · rw [show addQ (n, na, sg, E, kd, (t, x, y, z), h, bs, cl) (0, a, b, 1) = _ from ifp_t hn _ _]
    exact ki (c_wholes_full l D B K f q n na a b h0 hn) (fun a9 f9 h9 => by obtain ⟨e1, e2⟩ := h9; subst e1; subst e2; exact ⟨rfl, hCL, Out.rf⟩)
  · rw [show addQ (n, na, sg, E, kd, (t, x, y, z), h, bs, cl) (0, a, b, 1) = _ from ifp_f hn _ _]
    have hn : n < 40 := by omega
    have hok : okS (0, a, b, 1) := ok_row (by decide) (by decide)
    obtain ⟨r1, r2⟩ := row_ok hok (show ¬ (0 : Int32) = 2 by decide)
    refine ki (c_wholes_new l D B K f q n na g a b h0 h4 hq hqs hn) (fun a9 f9 h9 => ?_)
    obtain ⟨e1, b9, hb, e2⟩ := h9
    subst e1; subst e2
    rw [r1]
    exact ⟨rfl, ⟨hh, cl2, ehh, ecl, _, _, _, _, _, cl_single hC0 hn hb hok rfl (Or.inl ⟨_, _, _, rfl, r2⟩)⟩, addF_out (Ext.new hb)⟩

set_option maxHeartbeats 4000000 in
set_option maxRecDepth 100000 in
theorem k_signs (l : Launch) (D : va_G) (B : Nat) (K : Nat → ClassId) (f : St) (q : Nat → Nat) (S : AS) (hC : CL K q f S) (a b : Int32) : Kc l D B K yX8_signs cX8_signs 3 ((some .int)) 50 1 7 [.ref (q 0), .int a, .int b] f (Qi_ D B (PC K q f (sSigns S a b))) := by
  obtain ⟨n, na, sg, E, kd, ⟨t, x, y, z⟩, h, bs, cl⟩ := S
  have hCL := hC
  obtain ⟨hh, cl2, ehh, ecl, fi, ra, g, gb, hs, hC⟩ := hC
  have hC0 := hC
  obtain ⟨⟨h0, h1, h2, h3, h4, h5, h6, h7, h8, hrow, hq⟩, hI, hfq, hT, hn40, hg, hna, hbs, hMKs⟩ := hC
  have hqs := cl_qs hC0.1
  by_cases hin9 : ¬ upC a 65535 = 0 ∧ ¬ upC b 65535 = 0
  rotate_left
  · have e : sSigns (n, na, sg, E, kd, (t, x, y, z), h, bs, cl) a b = _ := ifp_f hin9 _ _
    rw [e]
    exact ki (c_signs_out l D B K f q n na a b h0 hin9) (fun a9 f9 h9 => by obtain ⟨e1, e2⟩ := h9; subst e1; subst e2; exact ⟨rfl, hCL, Out.rf⟩)
  have e : sSigns (n, na, sg, E, kd, (t, x, y, z), h, bs, cl) a b = addQ (n, na, sg, E, kd, (t, x, y, z), h, bs, cl) (1, a.toInt64, b.toInt64, 1) := ifp_t hin9 _ _
  rw [e]
  by_cases hn : n = 40
  · rw [show addQ (n, na, sg, E, kd, (t, x, y, z), h, bs, cl) (1, a.toInt64, b.toInt64, 1) = _ from ifp_t hn _ _]
    exact ki (c_signs_full l D B K f q n na a b h0 hin9 hn) (fun a9 f9 h9 => by obtain ⟨e1, e2⟩ := h9; subst e1; subst e2; exact ⟨rfl, hCL, Out.rf⟩)
  · rw [show addQ (n, na, sg, E, kd, (t, x, y, z), h, bs, cl) (1, a.toInt64, b.toInt64, 1) = _ from ifp_f hn _ _]
    have hn : n < 40 := by omega
    have hok : okS (1, a.toInt64, b.toInt64, 1) := ok_row (by decide) (by decide)
    obtain ⟨r1, r2⟩ := row_ok hok (show ¬ (1 : Int32) = 2 by decide)
    refine ki (c_signs_new l D B K f q n na g a b h0 h4 hq hqs hin9 hn) (fun a9 f9 h9 => ?_)
    obtain ⟨e1, b9, hb, e2⟩ := h9
    subst e1; subst e2
    rw [r1]
    exact ⟨rfl, ⟨hh, cl2, ehh, ecl, _, _, _, _, _, cl_single hC0 hn hb hok rfl (Or.inl ⟨_, _, _, rfl, r2⟩)⟩, addF_out (Ext.new hb)⟩

set_option maxHeartbeats 4000000 in
set_option maxRecDepth 100000 in
theorem k_names (l : Launch) (D : va_G) (B : Nat) (K : Nat → ClassId) (f : St) (q : Nat → Nat) (S : AS) (hC : CL K q f S) (n9 a b : Int32) : Kc l D B K yX8_names cX8_names 5 ((some .int)) 50 1 7 [.ref (q 0), .int n9, .int a, .int b] f (Qi_ D B (PC K q f (sNames S n9 a b))) := by
  obtain ⟨n, na, sg, E, kd, ⟨t, x, y, z⟩, h, bs, cl⟩ := S
  have hCL := hC
  obtain ⟨hh, cl2, ehh, ecl, fi, ra, g, gb, hs, hC⟩ := hC
  have hC0 := hC
  obtain ⟨⟨h0, h1, h2, h3, h4, h5, h6, h7, h8, hrow, hq⟩, hI, hfq, hT, hn40, hg, hna, hbs, hMKs⟩ := hC
  have hqs := cl_qs hC0.1
  by_cases hin9 : ¬ n9 < 1 ∧ ¬ 20 < n9 ∧ ¬ upC a (n9 - 1) = 0 ∧ ¬ upC b (n9 - 1) = 0
  rotate_left
  · have e : sNames (n, na, sg, E, kd, (t, x, y, z), h, bs, cl) n9 a b = _ := ifp_f hin9 _ _
    rw [e]
    exact ki (c_names_out l D B K f q n na n9 a b h0 hin9) (fun a9 f9 h9 => by obtain ⟨e1, e2⟩ := h9; subst e1; subst e2; exact ⟨rfl, hCL, Out.rf⟩)
  have e : sNames (n, na, sg, E, kd, (t, x, y, z), h, bs, cl) n9 a b = addQ (n, na, sg, E, kd, (t, x, y, z), h, bs, cl) (2, a.toInt64, b.toInt64, n9) := ifp_t hin9 _ _
  rw [e]
  by_cases hn : n = 40
  · rw [show addQ (n, na, sg, E, kd, (t, x, y, z), h, bs, cl) (2, a.toInt64, b.toInt64, n9) = _ from ifp_t hn _ _]
    exact ki (c_names_full l D B K f q n na n9 a b h0 hin9 hn) (fun a9 f9 h9 => by obtain ⟨e1, e2⟩ := h9; subst e1; subst e2; exact ⟨rfl, hCL, Out.rf⟩)
  · rw [show addQ (n, na, sg, E, kd, (t, x, y, z), h, bs, cl) (2, a.toInt64, b.toInt64, n9) = _ from ifp_f hn _ _]
    have hn : n < 40 := by omega
    have hok : okS (2, a.toInt64, b.toInt64, n9) := ok_nam hin9
    obtain ⟨r1, r2⟩ := nam_ok hok
    refine ki (c_names_new l D B K f q n na g n9 a b h0 h4 hq hqs hin9 hn) (fun a9 f9 h9 => ?_)
    obtain ⟨e1, b9, hb, e2⟩ := h9
    subst e1; subst e2
    rw [r1]
    exact ⟨rfl, ⟨hh, cl2, ehh, ecl, _, _, _, _, _, cl_single hC0 hn hb hok rfl (Or.inr ⟨_, _, rfl, r2⟩)⟩, addF_out (Ext.new hb)⟩

set_option maxHeartbeats 4000000 in
set_option maxRecDepth 100000 in
theorem k_steps (l : Launch) (D : va_G) (B : Nat) (K : Nat → ClassId) (f : St) (q : Nat → Nat) (S : AS) (hC : CL K q f S) (a b : Int64) (s9 : Int32) : Kc l D B K yX8_steps cX8_steps 6 ((some .int)) 50 1 7 [.ref (q 0), .long a, .long b, .int s9] f (Qi_ D B (PC K q f (sSteps S a b s9))) := by
  obtain ⟨n, na, sg, E, kd, ⟨t, x, y, z⟩, h, bs, cl⟩ := S
  have hCL := hC
  obtain ⟨hh, cl2, ehh, ecl, fi, ra, g, gb, hs, hC⟩ := hC
  have hC0 := hC
  obtain ⟨⟨h0, h1, h2, h3, h4, h5, h6, h7, h8, hrow, hq⟩, hI, hfq, hT, hn40, hg, hna, hbs, hMKs⟩ := hC
  have hqs := cl_qs hC0.1
  by_cases hin9 : ¬ s9 = 0 ∧ ¬ s9 < -1000000 ∧ s9 ≤ 1000000
  rotate_left
  · have e : sSteps (n, na, sg, E, kd, (t, x, y, z), h, bs, cl) a b s9 = _ := ifp_f hin9 _ _
    rw [e]
    exact ki (c_steps_out l D B K f q n na a b s9 h0 hin9) (fun a9 f9 h9 => by obtain ⟨e1, e2⟩ := h9; subst e1; subst e2; exact ⟨rfl, hCL, Out.rf⟩)
  have e : sSteps (n, na, sg, E, kd, (t, x, y, z), h, bs, cl) a b s9 = addQ (n, na, sg, E, kd, (t, x, y, z), h, bs, cl) (3, a, b, s9) := ifp_t hin9 _ _
  rw [e]
  by_cases hn : n = 40
  · rw [show addQ (n, na, sg, E, kd, (t, x, y, z), h, bs, cl) (3, a, b, s9) = _ from ifp_t hn _ _]
    exact ki (c_steps_full l D B K f q n na a b s9 h0 hin9 hn) (fun a9 f9 h9 => by obtain ⟨e1, e2⟩ := h9; subst e1; subst e2; exact ⟨rfl, hCL, Out.rf⟩)
  · rw [show addQ (n, na, sg, E, kd, (t, x, y, z), h, bs, cl) (3, a, b, s9) = _ from ifp_f hn _ _]
    have hn : n < 40 := by omega
    have hok : okS (3, a, b, s9) := ok_row (by decide) hin9
    obtain ⟨r1, r2⟩ := row_ok hok (show ¬ (3 : Int32) = 2 by decide)
    refine ki (c_steps_new l D B K f q n na g a b s9 h0 h4 hq hqs hin9 hn) (fun a9 f9 h9 => ?_)
    obtain ⟨e1, b9, hb, e2⟩ := h9
    subst e1; subst e2
    rw [r1]
    exact ⟨rfl, ⟨hh, cl2, ehh, ecl, _, _, _, _, _, cl_single hC0 hn hb hok rfl (Or.inl ⟨_, _, _, rfl, r2⟩)⟩, addF_out (Ext.new hb)⟩

set_option maxHeartbeats 4000000 in
set_option maxRecDepth 100000 in
theorem k_back (l : Launch) (D : va_G) (B : Nat) (K : Nat → ClassId) (f : St) (q : Nat → Nat) (S : AS) (hC : CL K q f S) (w : Int32) : Kc l D B K yX8_back cX8_back 3 ((some .int)) 50 1 7 [.ref (q 0), .int w] f (Qi_ D B (PC K q f (sBack S w))) := by
  obtain ⟨n, na, sg, E, kd, ⟨t, x, y, z⟩, h, bs, cl⟩ := S
  have hCL := hC
  obtain ⟨hh, cl2, ehh, ecl, fi, ra, g, gb, hs, hC⟩ := hC
  have hC0 := hC
  obtain ⟨⟨h0, h1, h2, h3, h4, h5, h6, h7, h8, hrow, hq⟩, hI, hfq, hT, hn40, hg, hna, hbs, hMKs⟩ := hC
  have hqs := cl_qs hC0.1
  by_cases hx : bad w n
  · have e : sBack (n, na, sg, E, kd, (t, x, y, z), h, bs, cl) w = _ := ifp_t hx _ _
    rw [e]
    exact ki (c_back_bad l D B K f q n na w h0 hn40 hx) (fun a9 f9 h9 => by obtain ⟨e1, e2⟩ := h9; subst e1; subst e2; exact ⟨rfl, hCL, Out.rf⟩)
  · obtain ⟨i, hi, rfl, hix⟩ := ok_of (by omega) hx
    have e0 : sBack (n, na, sg, E, kd, (t, x, y, z), h, bs, cl) (nI i) = _ := ifp_f hx _ _
    rw [hix] at e0
    by_cases hz : 9223372036854775808 ≤ prodE sg (E i)
    · rw [e0, ifp_t hz]
      exact ki (c_back_many l D B K f q n na g fi sg E ra kd i h0 h4 hn40 hT hI hg hi hz) (fun a9 f9 h9 => by obtain ⟨e1, e2⟩ := h9; subst e1; subst e2; exact ⟨rfl, hCL, Out.rf⟩)
    · rw [e0, ifp_f hz]
      have hz : prodE sg (E i) < 9223372036854775808 := by omega
      by_cases hn : n = 40
      · rw [ifp_t hn]
        exact ki (c_back_full l D B K f q n na g fi sg E ra kd i h0 h4 hn40 hT hI hg hi hz hn) (fun a9 f9 h9 => by obtain ⟨e1, e2⟩ := h9; subst e1; subst e2; exact ⟨rfl, hCL, Out.rf⟩)
      · rw [ifp_f hn]
        have hn : n < 40 := by omega
        refine ki (c_back_new l D B K f q n na g fi sg E ra kd i h0 h4 hn40 hT hI hg hi hq hqs hz hn) (fun a9 f9 h9 => ?_)
        obtain ⟨e1, b9, hb, e2⟩ := h9
        subst e1; subst e2
        have hlt : ∀ {α : Type} (A : Nat → α) (v : α), up1 A n v i = A i := fun A v => up1_ne _ _ (by omega)
        refine ⟨rfl, ⟨hh, cl2, ehh, ecl, _, _, _, _, _, cl_rest hC0 hn hb (fun _ _ h9 => h9) hI (fun _ _ h9 => h9) hfq (by rw [List.length_map]; exact ⟨(hT.2 i hi).2.1, (hT.2 i hi).2.2.1⟩) (fun e he => ?_) (Or.inr (Or.inl ⟨i, hi, ?_, by rw [hlt]; exact hz, by rw [up1_self, hlt]⟩)) ?_⟩, addF_out (Ext.new hb)⟩
        · obtain ⟨e2, he2, e3⟩ := List.mem_map.mp he
          exact ⟨i, hi, e2, he2, by rw [← e3]; rfl⟩
        · rw [up1_self, up1_self, hlt, hlt, va_up_self]
        · unfold MKi
          rw [up1_self, up1_self, va_up_self]
          exact ⟨(fun ⟨fs, h9⟩ => by cases h9), (fun ⟨fs, h9⟩ => by cases h9), fun _ => rfl, fun _ _ _ _ _ _ _ h9 => by cases h9⟩

theorem CL_new {K : Nat → ClassId} {q : Nat → Nat} {f : St} {S : AS} {pa : Nat} {y9 : Option va_E} (hC : CL K q f S) (hpa : f pa = none) : CL K q (va_up f pa y9) S := by
  obtain ⟨n, na, sg, E, kd, ⟨t, x, y, z⟩, h, bs, cl⟩ := S
  obtain ⟨hh, cl2, ehh, ecl, fi, ra, g, gb, hs, ⟨c0, c1, c2, c3, c4, c5, c6, c7, c8, c9, c10⟩, cI, rest⟩ := hC
  exact ⟨hh, cl2, ehh, ecl, fi, ra, g, gb, hs, ⟨upn hpa c0, upn hpa c1, upn hpa c2, upn hpa c3, upn hpa c4, upn hpa c5, upn hpa c6, upn hpa c7, upn hpa c8, fun i hi => upn hpa (c9 i hi), c10⟩, cI.up (imm_none cI hpa), rest⟩
theorem CL_hq {K : Nat → ClassId} {q : Nat → Nat} {f : St} {S : AS} (hC : CL K q f S) : ∀ i j, i < 15 → j < 15 → q i = q j → i = j := by
  obtain ⟨n, na, sg, E, kd, ⟨t, x, y, z⟩, h, bs, cl⟩ := S
  obtain ⟨hh, cl2, ehh, ecl, fi, ra, g, gb, hs, ⟨c0, c1, c2, c3, c4, c5, c6, c7, c8, c9, c10⟩, cI, rest⟩ := hC
  exact c10
set_option maxHeartbeats 4000000 in
set_option maxRecDepth 100000 in
theorem k_pair (l : Launch) (D : va_G) (B : Nat) (K : Nat → ClassId) (f : St) (q : Nat → Nat) (S : AS) (hC : CL K q f S) (w w2 : Int32) : Kc l D B K yX8_pair cX8_pair 5 ((some .int)) 50 2 8 [.ref (q 0), .int w, .int w2] f (Qi_ D B (PC K q f (sPair S w w2))) := by
  obtain ⟨n, na, sg, E, kd, ⟨t, x, y, z⟩, h, bs, cl⟩ := S
  have hCL := hC
  obtain ⟨hh, cl2, ehh, ecl, fi, ra, g, gb, hs, hC⟩ := hC
  have hC0 := hC
  obtain ⟨⟨h0, h1, h2, h3, h4, h5, h6, h7, h8, hrow, hq⟩, hI, hfq, hT, hn40, hg, hna, hbs, hMKs⟩ := hC
  have hqs := cl_qs hC0.1
  by_cases hx : bad w n ∨ bad w2 n
  · have e : sPair (n, na, sg, E, kd, (t, x, y, z), h, bs, cl) w w2 = _ := ifp_t hx _ _
    rw [e]
    by_cases hg0 : bad w n
    · have hb0 := hg0
      by_cases hg1 : bad w2 n
      · have hb1 := hg1
        exact ki (c_pair_bad00 l D B K f q n na g fi sg E ra kd w w2 h0 h4 hn40 hT hI hg hb0 hb1) (fun a9 f9 h9 => by obtain ⟨e1, e2⟩ := h9; subst e1; subst e2; exact ⟨rfl, hCL, Out.rf⟩)
      · obtain ⟨i1, hi1, hw1, _⟩ := ok_of (by omega) hg1
        subst hw1
        exact ki (c_pair_bad01 l D B K f q n na g fi sg E ra kd w i1 h0 h4 hn40 hT hI hg hb0 hi1) (fun a9 f9 h9 => by obtain ⟨e1, e2⟩ := h9; subst e1; subst e2; exact ⟨rfl, hCL, Out.rf⟩)
    · obtain ⟨i0, hi0, hw0, _⟩ := ok_of (by omega) hg0
      subst hw0
      by_cases hg1 : bad w2 n
      · have hb1 := hg1
        exact ki (c_pair_bad10 l D B K f q n na g fi sg E ra kd i0 w2 h0 h4 hn40 hT hI hg hi0 hb1) (fun a9 f9 h9 => by obtain ⟨e1, e2⟩ := h9; subst e1; subst e2; exact ⟨rfl, hCL, Out.rf⟩)
      · obtain ⟨i1, hi1, hw1, _⟩ := ok_of (by omega) hg1
        subst hw1
        exact absurd hx (by simp only [not_or]; exact ⟨hg0, hg1⟩)
  · have hx0 := hx
    obtain ⟨i, hi, hw0, hix0⟩ := ok_of (n := n) (by omega) (fun h9 => hx (Or.inl h9))
    obtain ⟨j, hj, hw1, hix1⟩ := ok_of (n := n) (by omega) (fun h9 => hx (Or.inr h9))
    have e0 : sPair (n, na, sg, E, kd, (t, x, y, z), h, bs, cl) w w2 = _ := ifp_f hx _ _
    rw [hix0, hix1] at e0
    rw [e0]
    subst hw0
    subst hw1
    by_cases hw9 : 8 < (([i, j] : List Nat).flatMap E).length
    · rw [ifp_t hw9]
      exact ki (c_pair_state l D B K f q n na g fi sg E ra kd i j h0 h4 hn40 hT hI hg hi hj hw9) (fun a9 f9 h9 => by obtain ⟨e1, pa, y9, hpa, e2⟩ := h9; subst e1; subst e2; exact ⟨rfl, CL_new hCL hpa, Out.new hpa⟩)
    · rw [ifp_f hw9]
      have hw9 : (([i, j] : List Nat).flatMap E).length ≤ 8 := by omega
      by_cases hn : n = 40
      · rw [ifp_t hn]
        exact ki (c_pair_full l D B K f q n na g fi sg E ra kd i j h0 h4 hn40 hT hI hg hi hj hw9 hn) (fun a9 f9 h9 => by obtain ⟨e1, pa, y9, hpa, e2⟩ := h9; subst e1; subst e2; exact ⟨rfl, CL_new hCL hpa, Out.new hpa⟩)
      · rw [ifp_f hn]
        have hn : n < 40 := by omega
        refine ki (c_pair_new l D B K f q n na g fi sg E ra kd i j h0 h4 hn40 hT hI hg hi hj hq hqs hw9 hn) (fun a9 f9 h9 => ?_)
        obtain ⟨e1, pa, b9, hpa, hb, e2⟩ := h9
        subst e1; subst e2
        have hlt : ∀ {α : Type} (A : Nat → α) (v : α) (j9 : Nat), j9 ∈ ([i, j] : List Nat) → up1 A n v j9 = A j9 := fun A v j9 hj9 => up1_ne _ _ (by simp only [List.mem_cons, List.not_mem_nil, or_false] at hj9; omega)
        have hjs : ∀ j9 ∈ ([i, j] : List Nat), j9 < n := fun j9 hj9 => by simp only [List.mem_cons, List.not_mem_nil, or_false] at hj9; omega
        have hfE : ([i, j] : List Nat).flatMap (up1 E n ((([i, j] : List Nat).flatMap E).map deepE)) = ([i, j] : List Nat).flatMap E := fm_congr (fun j9 hj9 => hlt _ _ j9 hj9)
        have hpq := ne_of_none hqs hpa
        have hbp : pa ≠ b9 := fun e9 => by subst e9; rw [va_up_self] at hb; cases hb
        have hl1 : 1 ≤ (([i, j] : List Nat).flatMap E).length := by have h9 := (hT.2 i hi).2.2.1; rw [List.flatMap_cons, List.length_append]; omega
        refine ⟨rfl, ⟨hh, cl2, ehh, ecl, _, _, _, _, _, cl_rest (fi1 := va_up fi pa (some (.inl (K 3, 2, .inr (.inr (.inr (.inr (gp2 (ra i) (ra j))))))))) hC0 hn hb (Ext.new hpa) (hI.both hpa) (Ext.new (imm_none hI hpa)) (fi_none hC0.1 hfq hpa) (by rw [List.length_map]; exact ⟨hw9, hl1⟩) (fun e he => ?_) (Or.inr (Or.inr ⟨([i, j] : List Nat), pa, gp2 (ra i) (ra j), hjs, Nat.le_of_ble_eq_true rfl, ?_, ?_, ?_, by rw [hfE, up1_self]⟩)) ?_⟩, addF_out ((Ext.new hpa).tr (Ext.new hb))⟩
        · obtain ⟨e2, he2, e3⟩ := List.mem_map.mp he
          obtain ⟨j9, hj9, he9⟩ := List.mem_flatMap.mp he2
          exact ⟨j9, hjs j9 hj9, e2, he9, by rw [← e3]; rfl⟩
        · rw [up1_self, up1_self, up1_self, va_up_self, List.length_map, prod_map sg _ (g := deepE) (fun _ => rfl)]
        · rw [va_up_ne _ _ hbp, va_up_self]; rfl
        · intro t9 j9 h9
          rw [hlt _ _ j9 (List.mem_of_getElem? h9)]
          exact gp2_ok ra i j t9 j9 h9
        · unfold MKi
          rw [up1_self, up1_self, va_up_self]
          refine ⟨(fun ⟨fs, h9⟩ => by cases h9), (fun ⟨fs, h9⟩ => by cases h9), (fun ⟨fs, h9⟩ => by cases h9), fun x0 x1 x2 x3 p9 len g9 h9 h8 => ?_⟩
          cases h9
          rw [va_up_ne _ _ hbp, va_up_self] at h8
          cases h8
          rfl

set_option maxHeartbeats 4000000 in
set_option maxRecDepth 100000 in
theorem k_triple (l : Launch) (D : va_G) (B : Nat) (K : Nat → ClassId) (f : St) (q : Nat → Nat) (S : AS) (hC : CL K q f S) (w w2 w3 : Int32) : Kc l D B K yX8_triple cX8_triple 7 ((some .int)) 50 2 8 [.ref (q 0), .int w, .int w2, .int w3] f (Qi_ D B (PC K q f (sTriple S w w2 w3))) := by
  obtain ⟨n, na, sg, E, kd, ⟨t, x, y, z⟩, h, bs, cl⟩ := S
  have hCL := hC
  obtain ⟨hh, cl2, ehh, ecl, fi, ra, g, gb, hs, hC⟩ := hC
  have hC0 := hC
  obtain ⟨⟨h0, h1, h2, h3, h4, h5, h6, h7, h8, hrow, hq⟩, hI, hfq, hT, hn40, hg, hna, hbs, hMKs⟩ := hC
  have hqs := cl_qs hC0.1
  by_cases hx : bad w n ∨ bad w2 n ∨ bad w3 n
  · have e : sTriple (n, na, sg, E, kd, (t, x, y, z), h, bs, cl) w w2 w3 = _ := ifp_t hx _ _
    rw [e]
    by_cases hg0 : bad w n
    · have hb0 := hg0
      by_cases hg1 : bad w2 n
      · have hb1 := hg1
        by_cases hg2 : bad w3 n
        · have hb2 := hg2
          exact ki (c_triple_bad000 l D B K f q n na g fi sg E ra kd w w2 w3 h0 h4 hn40 hT hI hg hb0 hb1 hb2) (fun a9 f9 h9 => by obtain ⟨e1, e2⟩ := h9; subst e1; subst e2; exact ⟨rfl, hCL, Out.rf⟩)
        · obtain ⟨i2, hi2, hw2, _⟩ := ok_of (by omega) hg2
          subst hw2
          exact ki (c_triple_bad001 l D B K f q n na g fi sg E ra kd w w2 i2 h0 h4 hn40 hT hI hg hb0 hb1 hi2) (fun a9 f9 h9 => by obtain ⟨e1, e2⟩ := h9; subst e1; subst e2; exact ⟨rfl, hCL, Out.rf⟩)
      · obtain ⟨i1, hi1, hw1, _⟩ := ok_of (by omega) hg1
        subst hw1
        by_cases hg2 : bad w3 n
        · have hb2 := hg2
          exact ki (c_triple_bad010 l D B K f q n na g fi sg E ra kd w i1 w3 h0 h4 hn40 hT hI hg hb0 hi1 hb2) (fun a9 f9 h9 => by obtain ⟨e1, e2⟩ := h9; subst e1; subst e2; exact ⟨rfl, hCL, Out.rf⟩)
        · obtain ⟨i2, hi2, hw2, _⟩ := ok_of (by omega) hg2
          subst hw2
          exact ki (c_triple_bad011 l D B K f q n na g fi sg E ra kd w i1 i2 h0 h4 hn40 hT hI hg hb0 hi1 hi2) (fun a9 f9 h9 => by obtain ⟨e1, e2⟩ := h9; subst e1; subst e2; exact ⟨rfl, hCL, Out.rf⟩)
    · obtain ⟨i0, hi0, hw0, _⟩ := ok_of (by omega) hg0
      subst hw0
      by_cases hg1 : bad w2 n
      · have hb1 := hg1
        by_cases hg2 : bad w3 n
        · have hb2 := hg2
          exact ki (c_triple_bad100 l D B K f q n na g fi sg E ra kd i0 w2 w3 h0 h4 hn40 hT hI hg hi0 hb1 hb2) (fun a9 f9 h9 => by obtain ⟨e1, e2⟩ := h9; subst e1; subst e2; exact ⟨rfl, hCL, Out.rf⟩)
        · obtain ⟨i2, hi2, hw2, _⟩ := ok_of (by omega) hg2
          subst hw2
          exact ki (c_triple_bad101 l D B K f q n na g fi sg E ra kd i0 w2 i2 h0 h4 hn40 hT hI hg hi0 hb1 hi2) (fun a9 f9 h9 => by obtain ⟨e1, e2⟩ := h9; subst e1; subst e2; exact ⟨rfl, hCL, Out.rf⟩)
      · obtain ⟨i1, hi1, hw1, _⟩ := ok_of (by omega) hg1
        subst hw1
        by_cases hg2 : bad w3 n
        · have hb2 := hg2
          exact ki (c_triple_bad110 l D B K f q n na g fi sg E ra kd i0 i1 w3 h0 h4 hn40 hT hI hg hi0 hi1 hb2) (fun a9 f9 h9 => by obtain ⟨e1, e2⟩ := h9; subst e1; subst e2; exact ⟨rfl, hCL, Out.rf⟩)
        · obtain ⟨i2, hi2, hw2, _⟩ := ok_of (by omega) hg2
          subst hw2
          exact absurd hx (by simp only [not_or]; exact ⟨hg0, hg1, hg2⟩)
  · have hx0 := hx
    obtain ⟨i, hi, hw0, hix0⟩ := ok_of (n := n) (by omega) (fun h9 => hx (Or.inl h9))
    obtain ⟨j, hj, hw1, hix1⟩ := ok_of (n := n) (by omega) (fun h9 => hx (Or.inr (Or.inl h9)))
    obtain ⟨k, hk, hw2, hix2⟩ := ok_of (n := n) (by omega) (fun h9 => hx (Or.inr (Or.inr h9)))
    have e0 : sTriple (n, na, sg, E, kd, (t, x, y, z), h, bs, cl) w w2 w3 = _ := ifp_f hx _ _
    rw [hix0, hix1, hix2] at e0
    rw [e0]
    subst hw0
    subst hw1
    subst hw2
    by_cases hw9 : 8 < (([i, j, k] : List Nat).flatMap E).length
    · rw [ifp_t hw9]
      exact ki (c_triple_state l D B K f q n na g fi sg E ra kd i j k h0 h4 hn40 hT hI hg hi hj hk hw9) (fun a9 f9 h9 => by obtain ⟨e1, pa, y9, hpa, e2⟩ := h9; subst e1; subst e2; exact ⟨rfl, CL_new hCL hpa, Out.new hpa⟩)
    · rw [ifp_f hw9]
      have hw9 : (([i, j, k] : List Nat).flatMap E).length ≤ 8 := by omega
      by_cases hn : n = 40
      · rw [ifp_t hn]
        exact ki (c_triple_full l D B K f q n na g fi sg E ra kd i j k h0 h4 hn40 hT hI hg hi hj hk hw9 hn) (fun a9 f9 h9 => by obtain ⟨e1, pa, y9, hpa, e2⟩ := h9; subst e1; subst e2; exact ⟨rfl, CL_new hCL hpa, Out.new hpa⟩)
      · rw [ifp_f hn]
        have hn : n < 40 := by omega
        refine ki (c_triple_new l D B K f q n na g fi sg E ra kd i j k h0 h4 hn40 hT hI hg hi hj hk hq hqs hw9 hn) (fun a9 f9 h9 => ?_)
        obtain ⟨e1, pa, b9, hpa, hb, e2⟩ := h9
        subst e1; subst e2
        have hlt : ∀ {α : Type} (A : Nat → α) (v : α) (j9 : Nat), j9 ∈ ([i, j, k] : List Nat) → up1 A n v j9 = A j9 := fun A v j9 hj9 => up1_ne _ _ (by simp only [List.mem_cons, List.not_mem_nil, or_false] at hj9; omega)
        have hjs : ∀ j9 ∈ ([i, j, k] : List Nat), j9 < n := fun j9 hj9 => by simp only [List.mem_cons, List.not_mem_nil, or_false] at hj9; omega
        have hfE : ([i, j, k] : List Nat).flatMap (up1 E n ((([i, j, k] : List Nat).flatMap E).map deepE)) = ([i, j, k] : List Nat).flatMap E := fm_congr (fun j9 hj9 => hlt _ _ j9 hj9)
        have hpq := ne_of_none hqs hpa
        have hbp : pa ≠ b9 := fun e9 => by subst e9; rw [va_up_self] at hb; cases hb
        have hl1 : 1 ≤ (([i, j, k] : List Nat).flatMap E).length := by have h9 := (hT.2 i hi).2.2.1; rw [List.flatMap_cons, List.length_append]; omega
        refine ⟨rfl, ⟨hh, cl2, ehh, ecl, _, _, _, _, _, cl_rest (fi1 := va_up fi pa (some (.inl (K 3, 3, .inr (.inr (.inr (.inr (gp3 (ra i) (ra j) (ra k))))))))) hC0 hn hb (Ext.new hpa) (hI.both hpa) (Ext.new (imm_none hI hpa)) (fi_none hC0.1 hfq hpa) (by rw [List.length_map]; exact ⟨hw9, hl1⟩) (fun e he => ?_) (Or.inr (Or.inr ⟨([i, j, k] : List Nat), pa, gp3 (ra i) (ra j) (ra k), hjs, Nat.le_of_ble_eq_true rfl, ?_, ?_, ?_, by rw [hfE, up1_self]⟩)) ?_⟩, addF_out ((Ext.new hpa).tr (Ext.new hb))⟩
        · obtain ⟨e2, he2, e3⟩ := List.mem_map.mp he
          obtain ⟨j9, hj9, he9⟩ := List.mem_flatMap.mp he2
          exact ⟨j9, hjs j9 hj9, e2, he9, by rw [← e3]; rfl⟩
        · rw [up1_self, up1_self, up1_self, va_up_self, List.length_map, prod_map sg _ (g := deepE) (fun _ => rfl)]
        · rw [va_up_ne _ _ hbp, va_up_self]; rfl
        · intro t9 j9 h9
          rw [hlt _ _ j9 (List.mem_of_getElem? h9)]
          exact gp3_ok ra i j k t9 j9 h9
        · unfold MKi
          rw [up1_self, up1_self, va_up_self]
          refine ⟨(fun ⟨fs, h9⟩ => by cases h9), (fun ⟨fs, h9⟩ => by cases h9), (fun ⟨fs, h9⟩ => by cases h9), fun x0 x1 x2 x3 p9 len g9 h9 h8 => ?_⟩
          cases h9
          rw [va_up_ne _ _ hbp, va_up_self] at h8
          cases h8
          rfl

