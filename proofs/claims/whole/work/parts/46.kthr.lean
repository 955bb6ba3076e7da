/-! the program: the calls that may throw, over the one state -/
theorem kxm {l : Launch} {D : va_G} {B : Nat} {K : Nat → ClassId} {y : MethodName} {cc : ByteArray} {n : Nat} {ret : Option FieldType} {lvl mc ms : Nat} {av : List Value} {f : St} {Qc : Array Value → State → Outcome → State → Prop} {postX postX2 : String → St → Prop} (h : Kx l D B K y cc n ret lvl mc ms av f Qc postX) (hp : ∀ E f9, postX E f9 → postX2 E f9) : Kx l D B K y cc n ret lvl mc ms av f Qc postX2 := fun p e h1 h2 h3 s m args below h4 h5 h6 h7 => by
  obtain ⟨n, o, q1, q2, q3, q4⟩ := h p e h1 h2 h3 s m args below h4 h5 h6 h7
  refine ⟨n, o, q1, q2, q3, ?_⟩
  rcases q4 with q4 | ⟨q, q5, E, ce, L, ⟨u, hu1, hu2, hu3⟩, q7⟩
  · exact Or.inl q4
  · exact Or.inr ⟨q, q5, E, ce, L, ⟨u, hu1, ⟨hp _ _ hu2.1, hu2.2⟩, hu3⟩, q7⟩
theorem up7 {w : Int32} (h : ¬ upC w 7 = 0) : ¬ bad w 8 := fun hb => by
  unfold upC at h
  have z : (0 : Int32).toInt = 0 := rfl
  have z7 : (7 : Int32).toInt = 7 := rfl
  by_cases c1 : w < 0
  · rw [if_pos c1] at h; exact h rfl
  · rw [if_neg c1] at h
    rcases hb with h1 | h1
    · exact c1 h1
    · rw [if_pos (by rw [Int32.lt_iff_toInt_lt, z7]; rw [Int32.le_iff_toInt_le, nI_toInt (by decide)] at h1; omega)] at h
      exact h rfl
abbrev exI : String := "java/lang/IndexOutOfBoundsException"
abbrev exA : String := "java/lang/ArrayIndexOutOfBoundsException"
abbrev exN : String := "java/lang/NegativeArraySizeException"
abbrev exG : String := "java/lang/IllegalArgumentException"
def PX (K : Nat → ClassId) (q : Nat → Nat) (f : St) (E0 : String) (S : AS) : String → St → Prop := fun E9 f9 => E9 = E0 ∧ CL K q f9 S ∧ Out q f f9
set_option maxHeartbeats 4000000 in
set_option maxRecDepth 100000 in
theorem k_hold (l : Launch) (D : va_G) (B : Nat) (K : Nat → ClassId) (f : St) (q : Nat → Nat) (S : AS) (hC : CL K q f S) (w : Int32) (v : Int64) (hc : (sHold S w v).1 = 0) : Kc l D B K yX8_hold cX8_hold 6 ((some .long)) 50 0 0 [.ref (q 0), .int w, .long v] f (Ql_ D B (PC K q f (sHold S w v).2)) := by
  obtain ⟨n, na, sg, E, kd, ⟨t, x, y, z⟩, h, bs, cl⟩ := S
  have hCL := hC
  obtain ⟨hh, cl2, ehh, ecl, fi, ra, g, gb, hs, hC⟩ := hC
  have hC0 := hC
  obtain ⟨⟨h0, h1, h2, h3, h4, h5, h6, h7, h8, hrow, hq⟩, hI, hfq, hT, hn40, hg, hna, hbs, hMKs⟩ := hC
  have hqs := cl_qs hC0.1
  by_cases hx : upC w 7 = 0
  · have e : sHold (n, na, sg, E, kd, (t, x, y, z), h, bs, cl) w v = _ := ifp_t hx _ _
    rw [e] at hc
    exact absurd hc (by show ¬ (1 : Int32) = 0; decide)
  · have e : sHold (n, na, sg, E, kd, (t, x, y, z), h, bs, cl) w v = _ := ifp_f hx _ _
    rw [e]
    obtain ⟨j, hj, rfl, hix⟩ := ok_of (by decide) (up7 hx)
    rw [hix]
    refine kl (c_hold_ok l D B K f q n na j v h0 hh h1 h7 hj) (fun a9 f9 h9 => ?_)
    obtain ⟨e1, e2⟩ := h9
    subst e1; subst e2
    obtain ⟨r1, r2⟩ := CL_hand hCL (vp_updL hh j v) (vp_updL h j v) (fun j9 hj9 => by unfold vp_updL; rw [ehh j9 hj9])
    exact ⟨ehh j hj, r1, r2⟩

set_option maxHeartbeats 4000000 in
set_option maxRecDepth 100000 in
theorem kx_hold (l : Launch) (D : va_G) (B : Nat) (K : Nat → ClassId) (f : St) (q : Nat → Nat) (S : AS) (hC : CL K q f S) (w : Int32) (v : Int64) (hc : ¬ (sHold S w v).1 = 0) (hlT : l.stackTraces = false) : Kx l D B K yX8_hold cX8_hold 6 ((some .long)) 50 1 6 [.ref (q 0), .int w, .long v] f (Ql_ D B (fun _ _ => False)) (PX K q f exA (sHold S w v).2.2) := by
  obtain ⟨n, na, sg, E, kd, ⟨t, x, y, z⟩, h, bs, cl⟩ := S
  have hCL := hC
  obtain ⟨hh, cl2, ehh, ecl, fi, ra, g, gb, hs, hC⟩ := hC
  have hC0 := hC
  obtain ⟨⟨h0, h1, h2, h3, h4, h5, h6, h7, h8, hrow, hq⟩, hI, hfq, hT, hn40, hg, hna, hbs, hMKs⟩ := hC
  have hqs := cl_qs hC0.1
  by_cases hx : upC w 7 = 0
  · have e : sHold (n, na, sg, E, kd, (t, x, y, z), h, bs, cl) w v = _ := ifp_t hx _ _
    rw [e]
    exact kxm (x_hold l D B K f q n na w v h0 hx hlT) (fun E9 f9 h9 => by obtain ⟨e1, e2⟩ := h9; subst e1; subst e2; exact ⟨rfl, hCL, Out.rf⟩)
  · have e : sHold (n, na, sg, E, kd, (t, x, y, z), h, bs, cl) w v = _ := ifp_f hx _ _
    rw [e] at hc
    exact absurd rfl hc

set_option maxHeartbeats 4000000 in
set_option maxRecDepth 100000 in
theorem k_held (l : Launch) (D : va_G) (B : Nat) (K : Nat → ClassId) (f : St) (q : Nat → Nat) (S : AS) (hC : CL K q f S) (w : Int32) (hc : (sHeld S w).1 = 0) : Kc l D B K yX8_held cX8_held 2 ((some .long)) 50 0 0 [.ref (q 0), .int w] f (Ql_ D B (PC K q f (sHeld S w).2)) := by
  obtain ⟨n, na, sg, E, kd, ⟨t, x, y, z⟩, h, bs, cl⟩ := S
  have hCL := hC
  obtain ⟨hh, cl2, ehh, ecl, fi, ra, g, gb, hs, hC⟩ := hC
  have hC0 := hC
  obtain ⟨⟨h0, h1, h2, h3, h4, h5, h6, h7, h8, hrow, hq⟩, hI, hfq, hT, hn40, hg, hna, hbs, hMKs⟩ := hC
  have hqs := cl_qs hC0.1
  by_cases hx : upC w 7 = 0
  · have e : sHeld (n, na, sg, E, kd, (t, x, y, z), h, bs, cl) w = _ := ifp_t hx _ _
    rw [e] at hc
    exact absurd hc (by show ¬ (1 : Int32) = 0; decide)
  · have e : sHeld (n, na, sg, E, kd, (t, x, y, z), h, bs, cl) w = _ := ifp_f hx _ _
    rw [e]
    obtain ⟨j, hj, rfl, hix⟩ := ok_of (by decide) (up7 hx)
    rw [hix]
    refine kl (c_held_ok l D B K f q n na j h0 hh h1 h7 hj) (fun a9 f9 h9 => ?_)
    obtain ⟨e1, e2⟩ := h9
    subst e1; subst e2
    exact ⟨ehh j hj, hCL, Out.rf⟩

set_option maxHeartbeats 4000000 in
set_option maxRecDepth 100000 in
theorem kx_held (l : Launch) (D : va_G) (B : Nat) (K : Nat → ClassId) (f : St) (q : Nat → Nat) (S : AS) (hC : CL K q f S) (w : Int32) (hc : ¬ (sHeld S w).1 = 0) (hlT : l.stackTraces = false) : Kx l D B K yX8_held cX8_held 2 ((some .long)) 50 1 6 [.ref (q 0), .int w] f (Ql_ D B (fun _ _ => False)) (PX K q f exA (sHeld S w).2.2) := by
  obtain ⟨n, na, sg, E, kd, ⟨t, x, y, z⟩, h, bs, cl⟩ := S
  have hCL := hC
  obtain ⟨hh, cl2, ehh, ecl, fi, ra, g, gb, hs, hC⟩ := hC
  have hC0 := hC
  obtain ⟨⟨h0, h1, h2, h3, h4, h5, h6, h7, h8, hrow, hq⟩, hI, hfq, hT, hn40, hg, hna, hbs, hMKs⟩ := hC
  have hqs := cl_qs hC0.1
  by_cases hx : upC w 7 = 0
  · have e : sHeld (n, na, sg, E, kd, (t, x, y, z), h, bs, cl) w = _ := ifp_t hx _ _
    rw [e]
    exact kxm (x_held l D B K f q n na w h0 hx hlT) (fun E9 f9 h9 => by obtain ⟨e1, e2⟩ := h9; subst e1; subst e2; exact ⟨rfl, hCL, Out.rf⟩)
  · have e : sHeld (n, na, sg, E, kd, (t, x, y, z), h, bs, cl) w = _ := ifp_f hx _ _
    rw [e] at hc
    exact absurd rfl hc

set_option maxHeartbeats 4000000 in
set_option maxRecDepth 100000 in
theorem k_index (l : Launch) (D : va_G) (B : Nat) (K : Nat → ClassId) (f : St) (q : Nat → Nat) (S : AS) (hC : CL K q f S) (w : Int32) (hc : (sIndex S w).1 = 0) : Kc l D B K yX8_index cX8_index 5 ((some .long)) 50 0 0 [.ref (q 0), .int w] f (Ql_ D B (PC K q f (sIndex S w).2)) := by
  obtain ⟨n, na, sg, E, kd, ⟨t, x, y, z⟩, h, bs, cl⟩ := S
  have hCL := hC
  obtain ⟨hh, cl2, ehh, ecl, fi, ra, g, gb, hs, hC⟩ := hC
  have hC0 := hC
  obtain ⟨⟨h0, h1, h2, h3, h4, h5, h6, h7, h8, hrow, hq⟩, hI, hfq, hT, hn40, hg, hna, hbs, hMKs⟩ := hC
  have hqs := cl_qs hC0.1
  by_cases hx : bad w n
  · have e : sIndex (n, na, sg, E, kd, (t, x, y, z), h, bs, cl) w = _ := ifp_t hx _ _
    rw [e]
    exact kl (c_index_unk l D B K f q n na w h0 hn40 hx) (fun a9 f9 h9 => by obtain ⟨e1, e2⟩ := h9; subst e1; subst e2; exact ⟨rfl, hCL, Out.rf⟩)
  · obtain ⟨i, hi, rfl, hix⟩ := ok_of (by omega) hx
    have e0 : sIndex (n, na, sg, E, kd, (t, x, y, z), h, bs, cl) (nI i) = _ := ifp_f hx _ _
    rw [hix] at e0
    cases hm : missE sg h (E i) 0 with
    | none =>
      rw [hm, missM_n] at e0
      rw [e0]
      have hid : idxE sg hh (E i) 0 0 = idxE sg h (E i) 0 0 := idx_congr ehh (by have h9 := (hT.2 i hi).2.1; omega)
      rw [← miss_congr ehh (by have h9 := (hT.2 i hi).2.1; omega)] at hm
      exact kl (c_index_ok l D B K f q n na g fi sg E ra kd i (nI t) x y z hh h0 h4 hn40 hT hI hg h1 h7 h3 hi hm) (fun a9 f9 h9 => by obtain ⟨e1, e2⟩ := h9; subst e1; subst e2; exact ⟨by rw [hid], hCL, Out.rf⟩)
    | some m9 =>
      rw [hm, missM_s] at e0
      rw [e0] at hc
      exact absurd hc (by show ¬ (1 : Int32) = 0; decide)

set_option maxHeartbeats 4000000 in
set_option maxRecDepth 100000 in
theorem kx_index (l : Launch) (D : va_G) (B : Nat) (K : Nat → ClassId) (f : St) (q : Nat → Nat) (S : AS) (hC : CL K q f S) (w : Int32) (hc : ¬ (sIndex S w).1 = 0) (hlT : l.stackTraces = false) : Kx l D B K yX8_index cX8_index 5 ((some .long)) 50 1 6 [.ref (q 0), .int w] f (Ql_ D B (fun _ _ => False)) (PX K q f exI (sIndex S w).2.2) := by
  obtain ⟨n, na, sg, E, kd, ⟨t, x, y, z⟩, h, bs, cl⟩ := S
  have hCL := hC
  obtain ⟨hh, cl2, ehh, ecl, fi, ra, g, gb, hs, hC⟩ := hC
  have hC0 := hC
  obtain ⟨⟨h0, h1, h2, h3, h4, h5, h6, h7, h8, hrow, hq⟩, hI, hfq, hT, hn40, hg, hna, hbs, hMKs⟩ := hC
  have hqs := cl_qs hC0.1
  by_cases hx : bad w n
  · have e : sIndex (n, na, sg, E, kd, (t, x, y, z), h, bs, cl) w = _ := ifp_t hx _ _
    rw [e] at hc
    exact absurd rfl hc
  · obtain ⟨i, hi, rfl, hix⟩ := ok_of (by omega) hx
    have e0 : sIndex (n, na, sg, E, kd, (t, x, y, z), h, bs, cl) (nI i) = _ := ifp_f hx _ _
    rw [hix] at e0
    cases hm : missE sg h (E i) 0 with
    | none =>
      rw [hm, missM_n] at e0
      rw [e0] at hc
      exact absurd rfl hc
    | some m9 =>
      rw [hm, missM_s] at e0
      rw [e0]
      rw [← miss_congr ehh (by have h9 := (hT.2 i hi).2.1; omega)] at hm
      exact kxm (x_index l D B K f q n na g fi sg E ra kd i (nI t) x y z hh h0 h4 hn40 hT hI hg h1 h7 h3 hi m9 hm hlT) (fun E9 f9 h9 => by obtain ⟨e1, e2⟩ := h9; subst e1; subst e2; exact ⟨rfl, (CL_miss hCL m9).1, (CL_miss hCL m9).2⟩)

set_option maxHeartbeats 4000000 in
set_option maxRecDepth 100000 in
theorem k_element (l : Launch) (D : va_G) (B : Nat) (K : Nat → ClassId) (f : St) (q : Nat → Nat) (S : AS) (hC : CL K q f S) (w : Int32) (k : Int64) (hc : (sElement S w k).1 = 0) : Kc l D B K yX8_element cX8_element 5 ((some .int)) 50 0 0 [.ref (q 0), .int w, .long k] f (Qi_ D B (PC K q f (sElement S w k).2)) := by
  obtain ⟨n, na, sg, E, kd, ⟨t, x, y, z⟩, h, bs, cl⟩ := S
  have hCL := hC
  obtain ⟨hh, cl2, ehh, ecl, fi, ra, g, gb, hs, hC⟩ := hC
  have hC0 := hC
  obtain ⟨⟨h0, h1, h2, h3, h4, h5, h6, h7, h8, hrow, hq⟩, hI, hfq, hT, hn40, hg, hna, hbs, hMKs⟩ := hC
  have hqs := cl_qs hC0.1
  by_cases hx : bad w n
  · have e : sElement (n, na, sg, E, kd, (t, x, y, z), h, bs, cl) w k = _ := ifp_t hx _ _
    rw [e]
    exact ki (c_element_unk l D B K f q n na w h0 hn40 hx k) (fun a9 f9 h9 => by obtain ⟨e1, e2⟩ := h9; subst e1; subst e2; exact ⟨rfl, hCL, Out.rf⟩)
  · obtain ⟨i, hi, rfl, hix⟩ := ok_of (by omega) hx
    have e0 : sElement (n, na, sg, E, kd, (t, x, y, z), h, bs, cl) (nI i) k = _ := ifp_f hx _ _
    rw [hix] at e0
    by_cases hk : rchS (prodE sg (E i)) k
    · rw [ifp_t hk] at e0
      rw [e0]
      refine ki (c_element_ok l D B K f q n na g fi sg E ra kd i hh k h0 h4 hn40 hT hI hg h1 h7 hq hfq hi hk) (fun a9 f9 h9 => ?_)
      obtain ⟨e1, e2⟩ := h9
      subst e1; subst e2
      obtain ⟨r1, r2⟩ := CL_hand hCL (filG sg (E i) 0 k.toInt.toNat hh) (filG sg (E i) 0 k.toInt.toNat h) (fil_congr ehh)
      exact ⟨rfl, r1, r2⟩
    · rw [ifp_f hk] at e0
      rw [e0] at hc
      exact absurd hc (by show ¬ (1 : Int32) = 0; decide)

set_option maxHeartbeats 4000000 in
set_option maxRecDepth 100000 in
theorem kx_element (l : Launch) (D : va_G) (B : Nat) (K : Nat → ClassId) (f : St) (q : Nat → Nat) (S : AS) (hC : CL K q f S) (w : Int32) (k : Int64) (hc : ¬ (sElement S w k).1 = 0) (hlT : l.stackTraces = false) : Kx l D B K yX8_element cX8_element 5 ((some .int)) 50 1 6 [.ref (q 0), .int w, .long k] f (Qi_ D B (fun _ _ => False)) (PX K q f exI (sElement S w k).2.2) := by
  obtain ⟨n, na, sg, E, kd, ⟨t, x, y, z⟩, h, bs, cl⟩ := S
  have hCL := hC
  obtain ⟨hh, cl2, ehh, ecl, fi, ra, g, gb, hs, hC⟩ := hC
  have hC0 := hC
  obtain ⟨⟨h0, h1, h2, h3, h4, h5, h6, h7, h8, hrow, hq⟩, hI, hfq, hT, hn40, hg, hna, hbs, hMKs⟩ := hC
  have hqs := cl_qs hC0.1
  by_cases hx : bad w n
  · have e : sElement (n, na, sg, E, kd, (t, x, y, z), h, bs, cl) w k = _ := ifp_t hx _ _
    rw [e] at hc
    exact absurd rfl hc
  · obtain ⟨i, hi, rfl, hix⟩ := ok_of (by omega) hx
    have e0 : sElement (n, na, sg, E, kd, (t, x, y, z), h, bs, cl) (nI i) k = _ := ifp_f hx _ _
    rw [hix] at e0
    by_cases hk : rchS (prodE sg (E i)) k
    · rw [ifp_t hk] at e0
      rw [e0] at hc
      exact absurd rfl hc
    · rw [ifp_f hk] at e0
      rw [e0]
      exact kxm (x_element l D B K f q n na g fi sg E ra kd i hh k h0 h4 hn40 hT hI hg h1 h7 hq hfq hi hk hlT) (fun E9 f9 h9 => by obtain ⟨e1, e2⟩ := h9; subst e1; subst e2; exact ⟨rfl, hCL, Out.rf⟩)

set_option maxHeartbeats 4000000 in
set_option maxRecDepth 100000 in
theorem k_go (l : Launch) (D : va_G) (B : Nat) (K : Nat → ClassId) (f : St) (q : Nat → Nat) (S : AS) (hC : CL K q f S) (w : Int32) (k : Int64) (hc : (sGo S w k).1 = 0) : Kc l D B K yX8_go cX8_go 7 ((some .long)) 50 0 0 [.ref (q 0), .int w, .long k] f (Ql_ D B (PC K q f (sGo S w k).2)) := by
  obtain ⟨n, na, sg, E, kd, ⟨t, x, y, z⟩, h, bs, cl⟩ := S
  have hCL := hC
  obtain ⟨hh, cl2, ehh, ecl, fi, ra, g, gb, hs, hC⟩ := hC
  have hC0 := hC
  obtain ⟨⟨h0, h1, h2, h3, h4, h5, h6, h7, h8, hrow, hq⟩, hI, hfq, hT, hn40, hg, hna, hbs, hMKs⟩ := hC
  have hqs := cl_qs hC0.1
  by_cases hx : bad w n
  · have e : sGo (n, na, sg, E, kd, (t, x, y, z), h, bs, cl) w k = _ := ifp_t hx _ _
    rw [e]
    exact kl (c_go_unk l D B K f q n na w h0 hn40 hx k) (fun a9 f9 h9 => by obtain ⟨e1, e2⟩ := h9; subst e1; subst e2; exact ⟨rfl, hCL, Out.rf⟩)
  · obtain ⟨i, hi, rfl, hix⟩ := ok_of (by omega) hx
    have e0 : sGo (n, na, sg, E, kd, (t, x, y, z), h, bs, cl) (nI i) k = _ := ifp_f hx _ _
    rw [hix] at e0
    cases hm : missE sg h (E i) 0 with
    | none =>
      rw [hm, missM_n] at e0
      have hid : idxE sg hh (E i) 0 0 = idxE sg h (E i) 0 0 := idx_congr ehh (by have h9 := (hT.2 i hi).2.1; omega)
      rw [← miss_congr ehh (by have h9 := (hT.2 i hi).2.1; omega)] at hm
      rw [← hid] at e0
      by_cases hb : 9223372036854775808 ≤ idxE sg hh (E i) 0 0
      · rw [ifp_t hb] at e0
        rw [e0]
        exact kl (c_go_many l D B K f q n na g fi sg E ra kd i (nI t) x y z hh h0 h4 hn40 hT hI hg h1 h7 h3 hi k hm hb) (fun a9 f9 h9 => by obtain ⟨e1, e2⟩ := h9; subst e1; subst e2; exact ⟨rfl, hCL, Out.rf⟩)
      · rw [ifp_f hb] at e0
        have hb : idxE sg hh (E i) 0 0 < 9223372036854775808 := by omega
        by_cases hk : 9223372036854775808 ≤ (idxE sg hh (E i) 0 0 : Int) + k.toInt
        · rw [ifp_t hk] at e0
          rw [e0] at hc
          exact absurd hc (by show ¬ (1 : Int32) = 0; decide)
        · rw [ifp_f hk] at e0
          by_cases hk2 : rchS (prodE sg (E i)) (lN (idxE sg hh (E i) 0 0) + k)
          · rw [ifp_t hk2] at e0
            rw [e0]
            refine kl (c_go_ok l D B K f q n na g fi sg E ra kd i (nI t) x y z hh h0 h4 hn40 hT hI hg h1 h7 h3 hi k hq hfq hm hb hk hk2) (fun a9 f9 h9 => ?_)
            obtain ⟨e1, e2⟩ := h9
            subst e1; subst e2
            obtain ⟨r1, r2⟩ := CL_hand hCL (filG sg (E i) 0 (lN (idxE sg hh (E i) 0 0) + k).toInt.toNat hh) (filG sg (E i) 0 (lN (idxE sg hh (E i) 0 0) + k).toInt.toNat h) (fil_congr ehh)
            exact ⟨rfl, r1, r2⟩
          · rw [ifp_f hk2] at e0
            rw [e0] at hc
            exact absurd hc (by show ¬ (1 : Int32) = 0; decide)
    | some m9 =>
      rw [hm, missM_s] at e0
      rw [e0] at hc
      exact absurd hc (by show ¬ (1 : Int32) = 0; decide)

set_option maxHeartbeats 4000000 in
set_option maxRecDepth 100000 in
theorem kx_go (l : Launch) (D : va_G) (B : Nat) (K : Nat → ClassId) (f : St) (q : Nat → Nat) (S : AS) (hC : CL K q f S) (w : Int32) (k : Int64) (hc : ¬ (sGo S w k).1 = 0) (hlT : l.stackTraces = false) : Kx l D B K yX8_go cX8_go 7 ((some .long)) 50 1 6 [.ref (q 0), .int w, .long k] f (Ql_ D B (fun _ _ => False)) (PX K q f exI (sGo S w k).2.2) := by
  obtain ⟨n, na, sg, E, kd, ⟨t, x, y, z⟩, h, bs, cl⟩ := S
  have hCL := hC
  obtain ⟨hh, cl2, ehh, ecl, fi, ra, g, gb, hs, hC⟩ := hC
  have hC0 := hC
  obtain ⟨⟨h0, h1, h2, h3, h4, h5, h6, h7, h8, hrow, hq⟩, hI, hfq, hT, hn40, hg, hna, hbs, hMKs⟩ := hC
  have hqs := cl_qs hC0.1
  by_cases hx : bad w n
  · have e : sGo (n, na, sg, E, kd, (t, x, y, z), h, bs, cl) w k = _ := ifp_t hx _ _
    rw [e] at hc
    exact absurd rfl hc
  · obtain ⟨i, hi, rfl, hix⟩ := ok_of (by omega) hx
    have e0 : sGo (n, na, sg, E, kd, (t, x, y, z), h, bs, cl) (nI i) k = _ := ifp_f hx _ _
    rw [hix] at e0
    cases hm : missE sg h (E i) 0 with
    | none =>
      rw [hm, missM_n] at e0
      have hid : idxE sg hh (E i) 0 0 = idxE sg h (E i) 0 0 := idx_congr ehh (by have h9 := (hT.2 i hi).2.1; omega)
      rw [← miss_congr ehh (by have h9 := (hT.2 i hi).2.1; omega)] at hm
      rw [← hid] at e0
      by_cases hb : 9223372036854775808 ≤ idxE sg hh (E i) 0 0
      · rw [ifp_t hb] at e0
        rw [e0] at hc
        exact absurd rfl hc
      · rw [ifp_f hb] at e0
        have hb : idxE sg hh (E i) 0 0 < 9223372036854775808 := by omega
        by_cases hk : 9223372036854775808 ≤ (idxE sg hh (E i) 0 0 : Int) + k.toInt
        · rw [ifp_t hk] at e0
          rw [e0]
          exact kxm (x_go_big l D B K f q n na g fi sg E ra kd i (nI t) x y z hh h0 h4 hn40 hT hI hg h1 h7 h3 hi k hm hb hk hlT) (fun E9 f9 h9 => by obtain ⟨e1, e2⟩ := h9; subst e1; subst e2; exact ⟨rfl, hCL, Out.rf⟩)
        · rw [ifp_f hk] at e0
          by_cases hk2 : rchS (prodE sg (E i)) (lN (idxE sg hh (E i) 0 0) + k)
          · rw [ifp_t hk2] at e0
            rw [e0] at hc
            exact absurd rfl hc
          · rw [ifp_f hk2] at e0
            rw [e0]
            exact kxm (x_go_no l D B K f q n na g fi sg E ra kd i (nI t) x y z hh h0 h4 hn40 hT hI hg h1 h7 h3 hi k hm hb hk hk2 hlT) (fun E9 f9 h9 => by obtain ⟨e1, e2⟩ := h9; subst e1; subst e2; exact ⟨rfl, hCL, Out.rf⟩)
    | some m9 =>
      rw [hm, missM_s] at e0
      rw [e0]
      rw [← miss_congr ehh (by have h9 := (hT.2 i hi).2.1; omega)] at hm
      exact kxm (x_go_miss l D B K f q n na g fi sg E ra kd i (nI t) x y z hh h0 h4 hn40 hT hI hg h1 h7 h3 hi k m9 hm hlT) (fun E9 f9 h9 => by obtain ⟨e1, e2⟩ := h9; subst e1; subst e2; exact ⟨rfl, (CL_miss hCL m9).1, (CL_miss hCL m9).2⟩)

set_option maxHeartbeats 4000000 in
set_option maxRecDepth 100000 in
theorem k_array (l : Launch) (D : va_G) (B : Nat) (K : Nat → ClassId) (f : St) (q : Nat → Nat) (S : AS) (hC : CL K q f S) (w : Int32) (hc : (sArray S w).1 = 0) : Kc l D B K yX8_array cX8_array 3 ((some .int)) 50 0 0 [.ref (q 0), .int w] f (Qi_ D B (PC K q f (sArray S w).2)) := by
  obtain ⟨n, na, sg, E, kd, ⟨t, x, y, z⟩, h, bs, cl⟩ := S
  have hCL := hC
  obtain ⟨hh, cl2, ehh, ecl, fi, ra, g, gb, hs, hC⟩ := hC
  have hC0 := hC
  obtain ⟨⟨h0, h1, h2, h3, h4, h5, h6, h7, h8, hrow, hq⟩, hI, hfq, hT, hn40, hg, hna, hbs, hMKs⟩ := hC
  have hqs := cl_qs hC0.1
  by_cases hx : bad w n
  · have e : sArray (n, na, sg, E, kd, (t, x, y, z), h, bs, cl) w = _ := ifp_t hx _ _
    rw [e]
    exact ki (c_array_unk l D B K f q n na w h0 hn40 hx) (fun a9 f9 h9 => by obtain ⟨e1, e2⟩ := h9; subst e1; subst e2; exact ⟨rfl, hCL, Out.rf⟩)
  · obtain ⟨i, hi, rfl, hix⟩ := ok_of (by omega) hx
    have e0 : sArray (n, na, sg, E, kd, (t, x, y, z), h, bs, cl) (nI i) = _ := ifp_f hx _ _
    rw [hix] at e0
    by_cases h6n : na = 6
    · rw [ifp_t h6n] at e0
      rw [e0]
      exact ki (c_array_room l D B K f q n na g fi sg E ra kd i h0 h4 hn40 hT hI hg hi h6n) (fun a9 f9 h9 => by obtain ⟨e1, e2⟩ := h9; subst e1; subst e2; exact ⟨rfl, hCL, Out.rf⟩)
    · rw [ifp_f h6n] at e0
      have hna6 : na < 6 := by omega
      by_cases hz : 9223372036854775808 ≤ prodE sg (E i)
      · rw [ifp_t hz] at e0
        rw [e0] at hc
        exact absurd hc (by show ¬ (1 : Int32) = 0; decide)
      · rw [ifp_f hz] at e0
        by_cases hz2 : 400 < prodE sg (E i)
        · rw [ifp_t hz2] at e0
          rw [e0] at hc
          exact absurd hc (by show ¬ (2 : Int32) = 0; decide)
        · rw [ifp_f hz2] at e0
          rw [e0]
          refine ki (c_array_ok l D B K f q n na g fi sg E ra kd i h0 h4 hn40 hT hI hg hi gb cl2 h5 h6 hrow hq hna6 (by omega)) (fun a9 f9 h9 => ?_)
          obtain ⟨e1, g9, hg9, e2⟩ := h9
          subst e1; subst e2
          refine ⟨rfl, ⟨hh, up1 cl2 na g9, ehh, fun a j ha hj => ?_, fi, ra, g, va_up gb na (some (ra i)), hs, clc_obj (clc_cell (clc_bases hC0.1 _) na hna6 g9) n (na + 1), ((hI.up (hfq 5 (by decide))).up (hfq _ (by omega))).up (hfq 0 (by decide)), hfq, hT, hn40, hg, by omega, fun a ha => ?_, hMKs⟩, ((Out.up (by decide)).tr (Out.up (by omega))).tr (Out.up (by decide))⟩
          · by_cases e9 : a = na
            · subst e9; rw [up1_self, up1_self]; exact hg9 j hj
            · rw [up1_ne _ _ e9, up1_ne _ _ e9]; exact ecl a j (by omega) hj
          · by_cases e9 : a = na
            · subst e9; rw [va_up_self, up1_self]; exact ⟨rfl, hi, by omega⟩
            · rw [va_up_ne _ _ e9, up1_ne _ _ e9]; exact hbs a (by omega)

set_option maxHeartbeats 4000000 in
set_option maxRecDepth 100000 in
theorem kx_array (l : Launch) (D : va_G) (B : Nat) (K : Nat → ClassId) (f : St) (q : Nat → Nat) (S : AS) (hC : CL K q f S) (w : Int32) (hc : ¬ (sArray S w).1 = 0) (hlT : l.stackTraces = false) : Kx l D B K yX8_array cX8_array 3 ((some .int)) 50 1 6 [.ref (q 0), .int w] f (Qi_ D B (fun _ _ => False)) (PX K q f (if (sArray S w).1 = 1 then exN else exG) (sArray S w).2.2) := by
  obtain ⟨n, na, sg, E, kd, ⟨t, x, y, z⟩, h, bs, cl⟩ := S
  have hCL := hC
  obtain ⟨hh, cl2, ehh, ecl, fi, ra, g, gb, hs, hC⟩ := hC
  have hC0 := hC
  obtain ⟨⟨h0, h1, h2, h3, h4, h5, h6, h7, h8, hrow, hq⟩, hI, hfq, hT, hn40, hg, hna, hbs, hMKs⟩ := hC
  have hqs := cl_qs hC0.1
  by_cases hx : bad w n
  · have e : sArray (n, na, sg, E, kd, (t, x, y, z), h, bs, cl) w = _ := ifp_t hx _ _
    rw [e] at hc
    exact absurd rfl hc
  · obtain ⟨i, hi, rfl, hix⟩ := ok_of (by omega) hx
    have e0 : sArray (n, na, sg, E, kd, (t, x, y, z), h, bs, cl) (nI i) = _ := ifp_f hx _ _
    rw [hix] at e0
    by_cases h6n : na = 6
    · rw [ifp_t h6n] at e0
      rw [e0] at hc
      exact absurd rfl hc
    · rw [ifp_f h6n] at e0
      have hna6 : na < 6 := by omega
      by_cases hz : 9223372036854775808 ≤ prodE sg (E i)
      · rw [ifp_t hz] at e0
        rw [e0]
        exact kxm (x_array_many l D B K f q n na g fi sg E ra kd i h0 h4 hn40 hT hI hg hi hna6 hz hlT) (fun E9 f9 h9 => by obtain ⟨e1, e2⟩ := h9; subst e1; subst e2; exact ⟨rfl, hCL, Out.rf⟩)
      · rw [ifp_f hz] at e0
        by_cases hz2 : 400 < prodE sg (E i)
        · rw [ifp_t hz2] at e0
          rw [e0]
          exact kxm (x_array_big l D B K f q n na g fi sg E ra kd i h0 h4 hn40 hT hI hg hi hna6 (by omega) hz2 hlT) (fun E9 f9 h9 => by obtain ⟨e1, e2⟩ := h9; subst e1; subst e2; exact ⟨rfl, hCL, Out.rf⟩)
        · rw [ifp_f hz2] at e0
          rw [e0] at hc
          exact absurd rfl hc

set_option maxHeartbeats 4000000 in
set_option maxRecDepth 100000 in
theorem k_put (l : Launch) (D : va_G) (B : Nat) (K : Nat → ClassId) (f : St) (q : Nat → Nat) (S : AS) (hC : CL K q f S) (w v : Int32) (hc : (sPut S w v).1 = 0) : Kc l D B K yX8_put cX8_put 6 ((some .int)) 50 0 0 [.ref (q 0), .int w, .int v] f (Qi_ D B (PC K q f (sPut S w v).2)) := by
  obtain ⟨n, na, sg, E, kd, ⟨t, x, y, z⟩, h, bs, cl⟩ := S
  have hCL := hC
  obtain ⟨hh, cl2, ehh, ecl, fi, ra, g, gb, hs, hC⟩ := hC
  have hC0 := hC
  obtain ⟨⟨h0, h1, h2, h3, h4, h5, h6, h7, h8, hrow, hq⟩, hI, hfq, hT, hn40, hg, hna, hbs, hMKs⟩ := hC
  have hqs := cl_qs hC0.1
  by_cases hx : bad w na
  · have e : sPut (n, na, sg, E, kd, (t, x, y, z), h, bs, cl) w v = _ := ifp_t hx _ _
    rw [e]
    exact ki (c_put_unk l D B K f q n na w h0 hna hx v) (fun a9 f9 h9 => by obtain ⟨e1, e2⟩ := h9; subst e1; subst e2; exact ⟨rfl, hCL, Out.rf⟩)
  · obtain ⟨a9, ha9, rfl, hix⟩ := ok_of (by omega) hx
    obtain ⟨hgb, hi, hz⟩ := hbs a9 ha9
    have hl8 := (hT.2 _ hi).2.1
    have hid : idxE sg hh (E (bs a9)) 0 0 = idxE sg h (E (bs a9)) 0 0 := idx_congr ehh (by omega)
    have e0 : sPut (n, na, sg, E, kd, (t, x, y, z), h, bs, cl) (nI a9) v = _ := ifp_f hx _ _
    rw [hix] at e0
    cases hm : missE sg h (E (bs a9)) 0 with
    | none =>
      rw [hm, missM_n] at e0
      rw [e0]
      rw [← miss_congr ehh (by omega)] at hm
      have hlt : idxE sg h (E (bs a9)) 0 0 < 400 := by rw [← hid]; exact Nat.lt_of_lt_of_le (idx_lt hT.1 hm) hz
      refine ki (c_put_ok l D B K f q n na gb fi sg E ra kd a9 (bs a9) v (nI t) x y z hh h0 h5 hna hn40 hT hI ha9 hi hgb h1 h7 h3 cl2 h6 hrow hz hm) (fun b9 f9 h9 => ?_)
      obtain ⟨e1, e2⟩ := h9
      subst e1; subst e2
      rw [hid]
      refine ⟨ecl a9 _ ha9 hlt, ⟨hh, up1 cl2 a9 (upd (cl2 a9) (idxE sg h (E (bs a9)) 0 0) v), ehh, fun a j ha hj => ?_, fi, ra, g, gb, hs, clc_cell hC0.1 a9 (by omega) _, hI.up (hfq _ (by omega)), hC0.2.2⟩, Out.up (by omega)⟩
      by_cases e9 : a = a9
      · subst e9; rw [up1_self, up1_self]; unfold upd; rw [ecl a j ha hj]
      · rw [up1_ne _ _ e9, up1_ne _ _ e9]; exact ecl a j ha hj
    | some m9 =>
      rw [hm, missM_s] at e0
      rw [e0] at hc
      exact absurd hc (by show ¬ (1 : Int32) = 0; decide)

set_option maxHeartbeats 4000000 in
set_option maxRecDepth 100000 in
theorem kx_put (l : Launch) (D : va_G) (B : Nat) (K : Nat → ClassId) (f : St) (q : Nat → Nat) (S : AS) (hC : CL K q f S) (w v : Int32) (hc : ¬ (sPut S w v).1 = 0) (hlT : l.stackTraces = false) : Kx l D B K yX8_put cX8_put 6 ((some .int)) 50 1 6 [.ref (q 0), .int w, .int v] f (Qi_ D B (fun _ _ => False)) (PX K q f exI (sPut S w v).2.2) := by
  obtain ⟨n, na, sg, E, kd, ⟨t, x, y, z⟩, h, bs, cl⟩ := S
  have hCL := hC
  obtain ⟨hh, cl2, ehh, ecl, fi, ra, g, gb, hs, hC⟩ := hC
  have hC0 := hC
  obtain ⟨⟨h0, h1, h2, h3, h4, h5, h6, h7, h8, hrow, hq⟩, hI, hfq, hT, hn40, hg, hna, hbs, hMKs⟩ := hC
  have hqs := cl_qs hC0.1
  by_cases hx : bad w na
  · have e : sPut (n, na, sg, E, kd, (t, x, y, z), h, bs, cl) w v = _ := ifp_t hx _ _
    rw [e] at hc
    exact absurd rfl hc
  · obtain ⟨a9, ha9, rfl, hix⟩ := ok_of (by omega) hx
    obtain ⟨hgb, hi, hz⟩ := hbs a9 ha9
    have hl8 := (hT.2 _ hi).2.1
    have hid : idxE sg hh (E (bs a9)) 0 0 = idxE sg h (E (bs a9)) 0 0 := idx_congr ehh (by omega)
    have e0 : sPut (n, na, sg, E, kd, (t, x, y, z), h, bs, cl) (nI a9) v = _ := ifp_f hx _ _
    rw [hix] at e0
    cases hm : missE sg h (E (bs a9)) 0 with
    | none =>
      rw [hm, missM_n] at e0
      rw [e0] at hc
      exact absurd rfl hc
    | some m9 =>
      rw [hm, missM_s] at e0
      rw [e0]
      rw [← miss_congr ehh (by omega)] at hm
      exact kxm (x_put l D B K f q n na gb fi sg E ra kd a9 (bs a9) v (nI t) x y z hh h0 h5 hna hn40 hT hI ha9 hi hgb h1 h7 h3 m9 hm hlT) (fun E9 f9 h9 => by obtain ⟨e1, e2⟩ := h9; subst e1; subst e2; exact ⟨rfl, (CL_miss hCL m9).1, (CL_miss hCL m9).2⟩)

set_option maxHeartbeats 4000000 in
set_option maxRecDepth 100000 in
theorem k_at (l : Launch) (D : va_G) (B : Nat) (K : Nat → ClassId) (f : St) (q : Nat → Nat) (S : AS) (hC : CL K q f S) (w : Int32) (hc : (sAt S w ).1 = 0) : Kc l D B K yX8_at cX8_at 4 ((some .int)) 50 0 0 [.ref (q 0), .int w] f (Qi_ D B (PC K q f (sAt S w ).2)) := by
  obtain ⟨n, na, sg, E, kd, ⟨t, x, y, z⟩, h, bs, cl⟩ := S
  have hCL := hC
  obtain ⟨hh, cl2, ehh, ecl, fi, ra, g, gb, hs, hC⟩ := hC
  have hC0 := hC
  obtain ⟨⟨h0, h1, h2, h3, h4, h5, h6, h7, h8, hrow, hq⟩, hI, hfq, hT, hn40, hg, hna, hbs, hMKs⟩ := hC
  have hqs := cl_qs hC0.1
  by_cases hx : bad w na
  · have e : sAt (n, na, sg, E, kd, (t, x, y, z), h, bs, cl) w  = _ := ifp_t hx _ _
    rw [e]
    exact ki (c_at_unk l D B K f q n na w h0 hna hx) (fun a9 f9 h9 => by obtain ⟨e1, e2⟩ := h9; subst e1; subst e2; exact ⟨rfl, hCL, Out.rf⟩)
  · obtain ⟨a9, ha9, rfl, hix⟩ := ok_of (by omega) hx
    obtain ⟨hgb, hi, hz⟩ := hbs a9 ha9
    have hl8 := (hT.2 _ hi).2.1
    have hid : idxE sg hh (E (bs a9)) 0 0 = idxE sg h (E (bs a9)) 0 0 := idx_congr ehh (by omega)
    have e0 : sAt (n, na, sg, E, kd, (t, x, y, z), h, bs, cl) (nI a9)  = _ := ifp_f hx _ _
    rw [hix] at e0
    cases hm : missE sg h (E (bs a9)) 0 with
    | none =>
      rw [hm, missM_n] at e0
      rw [e0]
      rw [← miss_congr ehh (by omega)] at hm
      have hlt : idxE sg h (E (bs a9)) 0 0 < 400 := by rw [← hid]; exact Nat.lt_of_lt_of_le (idx_lt hT.1 hm) hz
      refine ki (c_at_ok l D B K f q n na gb fi sg E ra kd a9 (bs a9) (nI t) x y z hh h0 h5 hna hn40 hT hI ha9 hi hgb h1 h7 h3 cl2 h6 hrow hz hm) (fun b9 f9 h9 => ?_)
      obtain ⟨e1, e2⟩ := h9
      subst e1; subst e2
      rw [hid]
      exact ⟨ecl a9 _ ha9 hlt, hCL, Out.rf⟩
    | some m9 =>
      rw [hm, missM_s] at e0
      rw [e0] at hc
      exact absurd hc (by show ¬ (1 : Int32) = 0; decide)

set_option maxHeartbeats 4000000 in
set_option maxRecDepth 100000 in
theorem kx_at (l : Launch) (D : va_G) (B : Nat) (K : Nat → ClassId) (f : St) (q : Nat → Nat) (S : AS) (hC : CL K q f S) (w : Int32) (hc : ¬ (sAt S w ).1 = 0) (hlT : l.stackTraces = false) : Kx l D B K yX8_at cX8_at 4 ((some .int)) 50 1 6 [.ref (q 0), .int w] f (Qi_ D B (fun _ _ => False)) (PX K q f exI (sAt S w ).2.2) := by
  obtain ⟨n, na, sg, E, kd, ⟨t, x, y, z⟩, h, bs, cl⟩ := S
  have hCL := hC
  obtain ⟨hh, cl2, ehh, ecl, fi, ra, g, gb, hs, hC⟩ := hC
  have hC0 := hC
  obtain ⟨⟨h0, h1, h2, h3, h4, h5, h6, h7, h8, hrow, hq⟩, hI, hfq, hT, hn40, hg, hna, hbs, hMKs⟩ := hC
  have hqs := cl_qs hC0.1
  by_cases hx : bad w na
  · have e : sAt (n, na, sg, E, kd, (t, x, y, z), h, bs, cl) w  = _ := ifp_t hx _ _
    rw [e] at hc
    exact absurd rfl hc
  · obtain ⟨a9, ha9, rfl, hix⟩ := ok_of (by omega) hx
    obtain ⟨hgb, hi, hz⟩ := hbs a9 ha9
    have hl8 := (hT.2 _ hi).2.1
    have hid : idxE sg hh (E (bs a9)) 0 0 = idxE sg h (E (bs a9)) 0 0 := idx_congr ehh (by omega)
    have e0 : sAt (n, na, sg, E, kd, (t, x, y, z), h, bs, cl) (nI a9)  = _ := ifp_f hx _ _
    rw [hix] at e0
    cases hm : missE sg h (E (bs a9)) 0 with
    | none =>
      rw [hm, missM_n] at e0
      rw [e0] at hc
      exact absurd rfl hc
    | some m9 =>
      rw [hm, missM_s] at e0
      rw [e0]
      rw [← miss_congr ehh (by omega)] at hm
      exact kxm (x_at l D B K f q n na gb fi sg E ra kd a9 (bs a9) (nI t) x y z hh h0 h5 hna hn40 hT hI ha9 hi hgb h1 h7 h3 m9 hm hlT) (fun E9 f9 h9 => by obtain ⟨e1, e2⟩ := h9; subst e1; subst e2; exact ⟨rfl, (CL_miss hCL m9).1, (CL_miss hCL m9).2⟩)

