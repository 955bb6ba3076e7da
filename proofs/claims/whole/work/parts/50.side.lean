/-! program and reference beside each other: neither touches the other's cells -/
def rk (x : va_E) : Prop := (∃ (ci : Nat) (fs : List Value), x = .inr (ci, fs) ∧ ci ≠ 7) ∨ ∃ (k : ClassId) (n : Nat) (g : Nat → Option Nat), x = .inl (k, n, .inr (.inr (.inr (.inr g))))
theorem RS.shrink {sg : Nat → Sg} {ra : Nat → Nat} {kd : Nat → Int32} {fi fi2 : St} {o : Nat} (h : RS sg ra kd fi o) (hf : ∀ a x, fi a = some x → rk x → fi2 a = some x) : RS sg ra kd fi2 o := by
  rcases h with ⟨a, b, c, h1, h2⟩ | ⟨a, b, h1, h2⟩
  · exact Or.inl ⟨a, b, c, hf _ _ h1 (Or.inl ⟨5, _, rfl, by decide⟩), h2⟩
  · exact Or.inr ⟨a, b, hf _ _ h1 (Or.inl ⟨4, _, rfl, by decide⟩), h2⟩
theorem CL_keep {K : Nat → ClassId} {q : Nat → Nat} {f f9 : St} {S : AS} {w : Nat → Prop} (hC : CL K q f S) (hq : ∀ j, j < 15 → ¬ w (q j)) (hx : ∀ a x, w a → f a = some x → ¬ rk x) (hk : ∀ a x, ¬ w a → f a = some x → f9 a = some x) : CL K q f9 S := by
  obtain ⟨n, na, sg, E, kd, ⟨t, x, y, z⟩, h, bs, cl⟩ := S
  obtain ⟨hh, cl2, ehh, ecl, fi, ra, g, gb, hs, ⟨c0, c1, c2, c3, c4, c5, c6, c7, c8, c9, c10⟩, hI, hfq, hT, hn40, hg, hna, hbs, hMKs⟩ := hC
  have hK : ∀ a x, fi a = some x → rk x → (fun b => ifp (w b) none (fi b)) a = some x := fun a x ha hr => by
    have h9 : ¬ w a := fun h9 => hx a x h9 (hI a x ha) hr
    show ifp (w a) none (fi a) = some x
    rw [ifp_f h9]; exact ha
  have hB : ∀ a x, (fun b => ifp (w b) none (fi b)) a = some x → fi a = some x ∧ ¬ w a := fun a x ha => by
    by_cases h9 : w a
    · have e9 : (fun b => ifp (w b) none (fi b)) a = none := ifp_t h9 _ _
      rw [e9] at ha; cases ha
    · have e9 : (fun b => ifp (w b) none (fi b)) a = fi a := ifp_f h9 _ _
      rw [e9] at ha; exact ⟨ha, h9⟩
  have Q : ∀ j, j < 15 → ∀ x, f (q j) = some x → f9 (q j) = some x := fun j hj x h9 => hk _ _ (hq j hj) h9
  refine ⟨hh, cl2, ehh, ecl, fun b => ifp (w b) none (fi b), ra, g, gb, hs, ⟨Q 0 (by decide) _ c0, Q 1 (by decide) _ c1, Q 2 (by decide) _ c2, Q 3 (by decide) _ c3, Q 4 (by decide) _ c4, Q 5 (by decide) _ c5, Q 6 (by decide) _ c6, Q 7 (by decide) _ c7, Q 8 (by decide) _ c8, fun i hi => Q (9 + i) (by omega) _ (c9 i hi), c10⟩, fun a x ha => hk a x (hB a x ha).2 (hI a x (hB a x ha).1), fun j hj => ?_, ⟨hT.1, fun i hi => ?_⟩, hn40, hg, hna, hbs, fun i hi => ?_⟩
  · show ifp (w (q j)) none (fi (q j)) = none
    rw [ifp_f (hq j hj)]; exact hfq j hj
  · obtain ⟨h1, h2, h3, h4⟩ := hT.2 i hi
    refine ⟨?_, h2, h3, fun e he => ⟨(h4 e he).1, (h4 e he).2.shrink hK⟩⟩
    rcases h1 with ⟨q1, q2⟩ | ⟨j, q0, q1, q2, q3⟩ | ⟨js, pa, g, q0, q1, q2, q3, q4, q5⟩
    · exact Or.inl ⟨q1.shrink hK, q2⟩
    · exact Or.inr (Or.inl ⟨j, q0, hK _ _ q1 (Or.inl ⟨0, _, rfl, by decide⟩), q2, q3⟩)
    · exact Or.inr (Or.inr ⟨js, pa, g, q0, q1, hK _ _ q2 (Or.inl ⟨1, _, rfl, by decide⟩), hK _ _ q3 (Or.inr ⟨_, _, _, rfl⟩), q4, q5⟩)
  · obtain ⟨m5, m4, m0, m1⟩ := hMKs i hi
    exact ⟨fun ⟨fs, h9⟩ => m5 ⟨fs, (hB _ _ h9).1⟩, fun ⟨fs, h9⟩ => m4 ⟨fs, (hB _ _ h9).1⟩, fun ⟨fs, h9⟩ => m0 ⟨fs, (hB _ _ h9).1⟩, fun x0 x1 x2 x3 pa len g h1 h2 => m1 x0 x1 x2 x3 pa len g (hB _ _ h1).1 (hB _ _ h2).1⟩
theorem MC.no {K : Nat → ClassId} {r : Nat → Nat} {f0 f : St} {A : Nat → Nat → Int32} {L : Nat → Nat → Int64} {I : Nat → Int32} (h : MC K r f0 f A L I) {j : Nat} (hj : j ∈ maL) {x : va_E} (hx : f (r j) = some x) : ¬ rk x := by
  have key : ∀ y : va_E, f (r j) = some y → ((∃ fs, y = .inr (7, fs)) ∨ (∃ k n g, y = .inl (k, n, .inl g)) ∨ ∃ k n g, y = .inl (k, n, .inr (.inl g))) → ¬ rk x := fun y hy hc hr => by
    rw [hx] at hy
    have e := Option.some.inj hy
    subst e
    rcases hr with ⟨ci, fs, e1, e2⟩ | ⟨k, n, g, e1⟩
    · subst e1
      rcases hc with ⟨fs2, e3⟩ | ⟨k2, n2, g2, e3⟩ | ⟨k2, n2, g2, e3⟩
      · cases e3; exact e2 rfl
      · cases e3
      · cases e3
    · subst e1
      rcases hc with ⟨fs2, e3⟩ | ⟨k2, n2, g2, e3⟩ | ⟨k2, n2, g2, e3⟩
      · cases e3
      · cases e3
      · cases e3
  rcases (by decide : ∀ j ∈ maL, j = 0 ∨ j = 9 ∨ j ∈ miL ∨ j ∈ mlL) j hj with e | e | e | e
  · subst e; exact key _ h.1 (Or.inl ⟨_, rfl⟩)
  · subst e; exact key _ h.2.2.1 (Or.inr (Or.inl ⟨_, _, _, rfl⟩))
  · exact key _ (h.2.1 j e) (Or.inr (Or.inl ⟨_, _, _, rfl⟩))
  · exact key _ (h.2.2.2.1 j e) (Or.inr (Or.inr ⟨_, _, _, rfl⟩))
theorem MC.keep {K : Nat → ClassId} {r : Nat → Nat} {f0 f f9 : St} {A : Nat → Nat → Int32} {L : Nat → Nat → Int64} {I : Nat → Int32} (h : MC K r f0 f A L I) (hk : ∀ j ∈ maL, ∀ x, f (r j) = some x → f9 (r j) = some x) : MC K r f9 f9 A L I :=
  ⟨hk 0 (by decide) _ h.1, fun j hj => hk j (mi_a hj).1 _ (h.2.1 j hj), hk 9 (by decide) _ h.2.2.1, fun j hj => hk j (ml_a hj).1 _ (h.2.2.2.1 j hj), h.2.2.2.2.1, fun _ _ _ hx => hx⟩
theorem MD.mc {K : Nat → ClassId} {r : Nat → Nat} {f0 f : St} {S : AS} (h : MD K r f0 f S) : ∃ A L I, MC K r f0 f A L I := by
  obtain ⟨n, na, sg, E, kd, ⟨t, x, y, z⟩, h9, bs, cl⟩ := S
  obtain ⟨A, L, I, h1, h2⟩ := h
  exact ⟨A, L, I, h1⟩
theorem MD.keep {K : Nat → ClassId} {r : Nat → Nat} {f0 f f9 : St} {S : AS} (h : MD K r f0 f S) (hk : ∀ j ∈ maL, ∀ x, f (r j) = some x → f9 (r j) = some x) : MD K r f9 f9 S := by
  obtain ⟨n, na, sg, E, kd, ⟨t, x, y, z⟩, h9, bs, cl⟩ := S
  obtain ⟨A, L, I, h1, h2⟩ := h
  exact ⟨A, L, I, h1.keep hk, h2⟩
theorem MDt.keep {K : Nat → ClassId} {r : Nat → Nat} {f0 f f9 : St} {th : Int32} {S : AS} (h : MDt K r f0 f th S) (hk : ∀ j ∈ maL, ∀ x, f (r j) = some x → f9 (r j) = some x) : MDt K r f9 f9 th S := by
  obtain ⟨n, na, sg, E, kd, ⟨t, x, y, z⟩, h9, bs, cl⟩ := S
  obtain ⟨A, L, I, h1, h2, h3⟩ := h
  exact ⟨A, L, I, h1.keep hk, h2, h3⟩
/-- the law's world: the program holds Sc, the reference Sm, the cell for an answer v -/
def LJ (K : Nat → ClassId) (q r : Nat → Nat) (o : Nat) (f : St) (Sc Sm : AS) (v : Nat → Int64) : Prop :=
  CL K q f Sc ∧ MD K r f f Sm ∧ f o = some (.inl (K 1, 1, .inr (.inl v))) ∧ (∀ i, i < 15 → ∀ j ∈ maL, q i ≠ r j) ∧ (∀ i, i < 15 → q i ≠ o) ∧ ∀ j ∈ maL, r j ≠ o
section LJs
variable {K : Nat → ClassId} {q r : Nat → Nat} {o : Nat} {f f9 : St} {Sc Sm S9 : AS} {v : Nat → Int64}
theorem lj_c (h : LJ K q r o f Sc Sm v) (hC : CL K q f9 S9) (hO : Out q f f9) : LJ K q r o f9 S9 Sm v := by
  obtain ⟨h1, h2, h3, h4, h5, h6⟩ := h
  exact ⟨hC, h2.keep (fun j hj x hx => hO _ _ (fun i hi => Ne.symm (h4 i hi j hj)) hx), hO _ _ (fun i hi => Ne.symm (h5 i hi)) h3, h4, h5, h6⟩
theorem lj_mm (h : LJ K q r o f Sc Sm v) (hM : ∀ a x, (∀ j ∈ maL, a ≠ r j) → f a = some x → f9 a = some x) : CL K q f9 Sc ∧ f9 o = some (.inl (K 1, 1, .inr (.inl v))) := by
  obtain ⟨h1, h2, h3, h4, h5, h6⟩ := h
  obtain ⟨A, L, I, hc⟩ := h2.mc
  refine ⟨CL_keep (w := fun a => ∃ j ∈ maL, a = r j) h1 (fun i hi ⟨j, hj, e⟩ => h4 i hi j hj e) (fun a x ⟨j, hj, e⟩ hx => by subst e; exact hc.no hj hx) (fun a x ha hx => hM a x (fun j hj e => ha ⟨j, hj, e⟩) hx), hM _ _ (fun j hj => Ne.symm (h6 j hj)) h3⟩
theorem lj_m (h : LJ K q r o f Sc Sm v) (hD : MD K r f f9 S9) : LJ K q r o f9 Sc S9 v := by
  obtain ⟨A, L, I, hc⟩ := hD.mc
  obtain ⟨g1, g2⟩ := lj_mm h hc.2.2.2.2.2
  exact ⟨g1, hD.keep (fun _ _ _ hx => hx), g2, h.2.2.2⟩
theorem lj_mt {th : Int32} (h : LJ K q r o f Sc Sm v) (hD : MDt K r f f9 th S9) : LJ K q r o f9 Sc S9 v ∧ MDt K r f9 f9 th S9 := ⟨lj_m h hD.d, hD.keep (fun _ _ _ hx => hx)⟩
theorem lj_o (h : LJ K q r o f Sc Sm v) (v2 : Nat → Int64) : LJ K q r o (va_up f o (some (.inl (K 1, 1, .inr (.inl v2))))) Sc Sm v2 := by
  obtain ⟨h1, h2, h3, h4, h5, h6⟩ := h
  refine ⟨CL_keep (w := fun a => a = o) h1 (fun i hi e => h5 i hi e) (fun a x e hx => ?_) (fun a x ha hx => by rw [va_up_ne _ _ ha]; exact hx), h2.keep (fun j hj x hx => by rw [va_up_ne _ _ (h6 j hj)]; exact hx), va_up_self _ _ _, h4, h5, h6⟩
  subst e
  rw [h3] at hx
  have e9 := Option.some.inj hx
  subst e9
  rintro (⟨ci, fs, e1, e2⟩ | ⟨k, n, g, e1⟩)
  · cases e1
  · cases e1
end LJs
