/-! what a run of calls makes of the ranges, the hand and the arrays: one state for program and reference -/
noncomputable def ifp {α : Type} (P : Prop) (a b : α) : α := @ite α P (Classical.propDecidable P) a b
theorem ifp_t {α : Type} {P : Prop} (h : P) (a b : α) : ifp P a b = a := by unfold ifp; exact if_pos h
theorem ifp_f {α : Type} {P : Prop} (h : ¬ P) (a b : α) : ifp P a b = b := by unfold ifp; exact if_neg h
abbrev AS : Type := Nat × Nat × (Nat → Sg) × (Nat → List Ent) × (Nat → Int32) × (Nat × Int32 × Int32 × Int32) × (Nat → Int64) × (Nat → Nat) × (Nat → Nat → Int32)
def CL (K : Nat → ClassId) (q : Nat → Nat) (f : St) (S : AS) : Prop := match S with
  | (n, na, sg, E, kd, (t, x, y, z), h, bs, cl) => ∃ (h2 : Nat → Int64) (cl2 : Nat → Nat → Int32), (∀ j, j < 8 → h2 j = h j) ∧ (∀ a j, a < na → j < 400 → cl2 a j = cl a j) ∧ Cl K q f n na sg E kd (nI t) x y z h2 bs cl2
def MdI (A : Nat → Nat → Int32) (L : Nat → Nat → Int64) (I : Nat → Int32) (n na : Nat) (sg : Nat → Sg) (E : Nat → List Ent) (kd : Nat → Int32) (t : Nat) (x y z : Int32) (h : Nat → Int64) (bs : Nat → Nat) (cl : Nat → Nat → Int32) : Prop :=
  I 0 = nI n ∧ n ≤ 40 ∧ (∀ i, i < n → A 1 i = kd i ∧ A 2 i = nI (ptK (kd i)) ∧ L 4 i = sat (prodE sg (E i)) ∧ RowM A L sg (E i) i n ∧ (0 < prodE sg (E i) → ∀ e ∈ E i, e.2.1 = true → cntS (sg e.1) < 9223372036854775808)) ∧
  I 13 = (if t = 0 then 0 else 1) ∧ (t ≠ 0 → I 14 = x ∧ I 15 = y ∧ I 16 = z) ∧ I 17 = nI t ∧ I 18 = nI na ∧ na ≤ 6 ∧ (∀ a, a < na → A 19 a = nI (bs a) ∧ bs a < n ∧ prodE sg (E (bs a)) ≤ 400 ∧ ∀ k, k < 400 → A 20 (400 * a + k) = cl a k) ∧ (∀ j, j < 8 → L 11 j = h j) ∧ (∀ o, okS (sg o))
def MD (K : Nat → ClassId) (r : Nat → Nat) (f0 f : St) (S : AS) : Prop := match S with
  | (n, na, sg, E, kd, (t, x, y, z), h, bs, cl) => ∃ (A : Nat → Nat → Int32) (L : Nat → Nat → Int64) (I : Nat → Int32), MC K r f0 f A L I ∧ MdI A L I n na sg E kd t x y z h bs cl
def PC (K : Nat → ClassId) (q : Nat → Nat) (f : St) {α : Type} (w : α × AS) : α → St → Prop := fun a f9 => a = w.1 ∧ CL K q f9 w.2 ∧ Out q f f9
def PM (K : Nat → ClassId) (r : Nat → Nat) (f : St) {α : Type} (w : α × AS) : α → St → Prop := fun a f9 => a = w.1 ∧ MD K r f f9 w.2
section KM
variable {l : Launch} {D : va_G} {B : Nat} {K : Nat → ClassId} {y : MethodName} {cc : ByteArray} {n : Nat} {ret : Option FieldType} {lvl mc ms : Nat} {av : List Value} {f : St}
theorem ki {post post2 : Int32 → St → Prop} (h : Kc l D B K y cc n ret lvl mc ms av f (Qi_ D B post)) (hp : ∀ a f9, post a f9 → post2 a f9) : Kc l D B K y cc n ret lvl mc ms av f (Qi_ D B post2) := fun p e h1 h2 h3 s m args below h4 h5 h6 h7 => by
  obtain ⟨n, o, q1, q2, q3, ⟨⟨r, u, e1, e2, e3⟩, q4⟩, q5⟩ := h p e h1 h2 h3 s m args below h4 h5 h6 h7
  exact ⟨n, o, q1, q2, q3, ⟨⟨r, u, e1, hp _ _ e2, e3⟩, q4⟩, q5⟩
theorem kl {post post2 : Int64 → St → Prop} (h : Kc l D B K y cc n ret lvl mc ms av f (Ql_ D B post)) (hp : ∀ a f9, post a f9 → post2 a f9) : Kc l D B K y cc n ret lvl mc ms av f (Ql_ D B post2) := fun p e h1 h2 h3 s m args below h4 h5 h6 h7 => by
  obtain ⟨n, o, q1, q2, q3, ⟨⟨r, u, e1, e2, e3⟩, q4⟩, q5⟩ := h p e h1 h2 h3 s m args below h4 h5 h6 h7
  exact ⟨n, o, q1, q2, q3, ⟨⟨r, u, e1, hp _ _ e2, e3⟩, q4⟩, q5⟩
end KM
def addS (S : AS) (q : Sg) : AS := match S with
  | (n, na, sg, E, kd, m, h, bs, cl) => (n + 1, na, up1 sg n q, up1 E n [(n, false, 0)], up1 kd n q.1, m, h, bs, cl)
def addR (S : AS) (k : Int32) (l : List Ent) : AS := match S with
  | (n, na, sg, E, kd, m, h, bs, cl) => (n + 1, na, sg, up1 E n l, up1 kd n k, m, h, bs, cl)
def bad (x : Int32) (n : Nat) : Prop := x < 0 ∨ nI n ≤ x
def ix (x : Int32) : Nat := x.toNatClampNeg
theorem ix_nI {j : Nat} (h : j < 2 ^ 31) : ix (nI j) = j := nI_clamp h
theorem ok_of {x : Int32} {n : Nat} (hn : n < 2 ^ 31) (h : ¬ bad x n) : ∃ j, j < n ∧ x = nI j ∧ ix x = j := by
  rcases pk_ix x hn with h1 | h1 | ⟨j, h1, h2⟩
  · exact absurd (Or.inl h1) h
  · exact absurd (Or.inr h1) h
  · exact ⟨j, h1, h2, by rw [h2]; exact ix_nI (by omega)⟩
noncomputable def addQ (S : AS) (q : Sg) : Int32 × AS := ifp (S.1 = 40) (-104, S) (nI S.1, addS S q)
noncomputable def sWholes (S : AS) (a b : Int64) : Int32 × AS := addQ S (0, a, b, 1)
noncomputable def sSigns (S : AS) (a b : Int32) : Int32 × AS := ifp (¬ upC a 65535 = 0 ∧ ¬ upC b 65535 = 0) (addQ S (1, a.toInt64, b.toInt64, 1)) (-102, S)
noncomputable def sNames (S : AS) (n9 a b : Int32) : Int32 × AS := ifp (¬ n9 < 1 ∧ ¬ 20 < n9 ∧ ¬ upC a (n9 - 1) = 0 ∧ ¬ upC b (n9 - 1) = 0) (addQ S (2, a.toInt64, b.toInt64, n9)) (-102, S)
noncomputable def sSteps (S : AS) (a b : Int64) (s : Int32) : Int32 × AS := ifp (¬ s = 0 ∧ ¬ s < -1000000 ∧ s ≤ 1000000) (addQ S (3, a, b, s)) (-102, S)
noncomputable def sBack (S : AS) (w : Int32) : Int32 × AS := match S with
  | (n, na, sg, E, kd, m, h, bs, cl) => ifp (bad w n) (-101, S) (ifp (9223372036854775808 ≤ prodE sg (E (ix w))) (-103, S) (ifp (n = 40) (-104, S) (nI n, addR S 4 ((E (ix w)).map flipE))))
noncomputable def sPair (S : AS) (w w2 : Int32) : Int32 × AS := match S with
  | (n, na, sg, E, kd, m, h, bs, cl) => ifp (bad w n ∨ bad w2 n) (-101, S) (ifp (8 < (([ix w, ix w2] : List Nat).flatMap E).length) (-103, S) (ifp (n = 40) (-104, S) (nI n, addR S 5 ((([ix w, ix w2] : List Nat).flatMap E).map deepE))))
noncomputable def sTriple (S : AS) (w w2 w3 : Int32) : Int32 × AS := match S with
  | (n, na, sg, E, kd, m, h, bs, cl) => ifp (bad w n ∨ bad w2 n ∨ bad w3 n) (-101, S) (ifp (8 < (([ix w, ix w2, ix w3] : List Nat).flatMap E).length) (-103, S) (ifp (n = 40) (-104, S) (nI n, addR S 6 ((([ix w, ix w2, ix w3] : List Nat).flatMap E).map deepE))))
theorem cl_qs {K : Nat → ClassId} {q : Nat → Nat} {f : St} {n na : Nat} {t x y z : Int32} {g gb : Nat → Option Nat} {h hs : Nat → Int64} {cl : Nat → Nat → Int32} (hC : ClC K q f n na t x y z g gb h hs cl) : ∀ j, j < 15 → ∃ x, f (q j) = some x := fun j hj => by
  obtain ⟨c0, c1, c2, c3, c4, c5, c6, c7, c8, c9, c10⟩ := hC
  by_cases h9 : 9 ≤ j
  · have h8 := c9 (j - 9) (by omega)
    rw [show 9 + (j - 9) = j by omega] at h8
    exact ⟨_, h8⟩
  · match j, h9 with
    | 0, _ => exact ⟨_, c0⟩
    | 1, _ => exact ⟨_, c1⟩
    | 2, _ => exact ⟨_, c2⟩
    | 3, _ => exact ⟨_, c3⟩
    | 4, _ => exact ⟨_, c4⟩
    | 5, _ => exact ⟨_, c5⟩
    | 6, _ => exact ⟨_, c6⟩
    | 7, _ => exact ⟨_, c7⟩
    | 8, _ => exact ⟨_, c8⟩
    | j + 9, h9 => exact absurd (by omega) h9
theorem okS_up {sg : Nat → Sg} {n : Nat} {qs : Sg} (h : ∀ o, okS (sg o)) (hq : okS qs) : ∀ o, okS (up1 sg n qs o) := fun o => by
  by_cases e : o = n
  · subst e; rw [up1_self]; exact hq
  · rw [up1_ne _ _ e]; exact h o
theorem fi_none {K : Nat → ClassId} {q : Nat → Nat} {fi f : St} {n na : Nat} {t x y z : Int32} {g gb : Nat → Option Nat} {h hs : Nat → Int64} {cl : Nat → Nat → Int32} {b9 : Nat} {y9 : Option va_E} (hC : ClC K q f n na t x y z g gb h hs cl) (hfq : ∀ j, j < 15 → fi (q j) = none) (hb : f b9 = none) : ∀ j, j < 15 → va_up fi b9 y9 (q j) = none := fun j hj => by
  rw [va_up_ne _ _ (Ne.symm (ne_of_none (cl_qs hC) hb j hj))]
  exact hfq j hj
section GR
variable {K : Nat → ClassId} {q : Nat → Nat} {fi f : St} {n na : Nat} {sg : Nat → Sg} {E : Nat → List Ent} {ra : Nat → Nat} {kd : Nat → Int32} {t x y z : Int32} {g gb : Nat → Option Nat} {h hs : Nat → Int64} {bs : Nat → Nat} {cl : Nat → Nat → Int32} {b9 : Nat}
theorem cl_single (hC : ClI K q fi f n na sg E ra kd t x y z g gb h hs bs cl) (hn : n < 40) (hb : f b9 = none) {qs : Sg} {cell : va_E} (hok : okS qs) (hpt : ptK qs.1 = 0)
    (hcell : (∃ fst lst sp, cell = .inr (5, [.int (nI n), .int qs.1, .int 1, .long (sat (cntS qs)), .long fst, .long lst, .int sp]) ∧ rowOK qs fst lst sp) ∨ (∃ ar fs : Int32, cell = .inr (4, [.int (nI n), .int qs.1, .int 1, .long (sat (cntS qs)), .int ar, .int fs]) ∧ namesOK qs ar fs)) :
    ClI K q (va_up fi b9 (some cell)) (addF K q (va_up f b9 (some cell)) n na g b9) (n + 1) na (up1 sg n qs) (up1 E n [(n, false, 0)]) (up1 ra n b9) (up1 kd n qs.1) t x y z (va_up g n (some b9)) gb h hs bs cl := by
  have hC0 := hC
  obtain ⟨cc, cI, cfq, cT, cn, cg, cna, cb, cM⟩ := hC
  have hfb : fi b9 = none := imm_none cI hb
  have hlt : ∀ {α : Type} (A : Nat → α) (v : α) (i : Nat), i < n → up1 A n v i = A i := fun A v i hi => up1_ne _ _ (by omega)
  have hRS : RS (up1 sg n qs) (up1 ra n b9) (up1 kd n qs.1) (va_up fi b9 (some cell)) n := by
    unfold RS
    rw [up1_self, up1_self, up1_self, va_up_self]
    rcases hcell with ⟨a, b, c, e, h9⟩ | ⟨a, b, e, h9⟩
    · exact Or.inl ⟨a, b, c, by rw [e], h9⟩
    · exact Or.inr ⟨a, b, by rw [e], h9⟩
  refine cl_grow hC0 (Ext.new hb) (cI.both hb) (fi_none cc cfq hb) (rt_grow cT (okS_up cT.1 hok) (hlt _ _) (hlt _ _) (hlt _ _) (hlt _ _) (Ext.new hfb) ⟨Or.inl ⟨hRS, up1_self _ _ _⟩, by rw [up1_self]; exact (by decide : (1 : Nat) ≤ 8), by rw [up1_self]; exact Nat.le_refl 1, fun e he => ?_⟩) (fun i hi => ?_) hn (fun i hi => ?_)
  · rw [up1_self] at he
    rcases List.mem_cons.mp he with e9 | e9
    · subst e9; exact ⟨Nat.le_refl _, hRS⟩
    · cases e9
  · by_cases e : i = n
    · subst e
      unfold MKi
      rw [up1_self, up1_self, va_up_self, hpt]
      refine ⟨fun _ => rfl, fun _ => rfl, fun ⟨fs, h9⟩ => ?_, fun x0 x1 x2 x3 pa len g9 h9 => ?_⟩
      · rcases hcell with ⟨a, b, c, e, _⟩ | ⟨a, b, e, _⟩ <;> rw [e] at h9 <;> cases h9
      · rcases hcell with ⟨a, b, c, e, _⟩ | ⟨a, b, e, _⟩ <;> rw [e] at h9 <;> cases h9
    · exact mk_grow (cM i (by omega)) (cT.2 i (by omega)).1 (hlt _ _ _ (by omega)) (hlt _ _ _ (by omega)) (Ext.new hfb)
  · rw [hlt _ _ _ hi]
    exact prod_congr (fun e he => hlt _ _ _ (by have := ((cT.2 i hi).2.2.2 e he).1; omega))
theorem cl_rest (hC : ClI K q fi f n na sg E ra kd t x y z g gb h hs bs cl) (hn : n < 40) {f1 fi1 : St} {cell : va_E} {k9 : Int32} {l9 : List Ent} (hb : f1 b9 = none) (hx : Ext f f1) (hI1 : Imm fi1 f1) (hx1 : Ext fi fi1) (hfq1 : ∀ j, j < 15 → fi1 (q j) = none) (hl : l9.length ≤ 8 ∧ 1 ≤ l9.length) (hle : ∀ e ∈ l9, ∃ i, i < n ∧ ∃ e2 ∈ E i, e.1 = e2.1)
    (hnew : RTi K sg (up1 E n l9) (up1 ra n b9) (up1 kd n k9) (va_up fi1 b9 (some cell)) n) (hMK : MKi K (up1 ra n b9) (up1 kd n k9) (va_up fi1 b9 (some cell)) n) :
    ClI K q (va_up fi1 b9 (some cell)) (addF K q (va_up f1 b9 (some cell)) n na g b9) (n + 1) na sg (up1 E n l9) (up1 ra n b9) (up1 kd n k9) t x y z (va_up g n (some b9)) gb h hs bs cl := by
  have hC0 := hC
  obtain ⟨cc, cI, cfq, cT, cn, cg, cna, cb, cM⟩ := hC
  have hfb : fi1 b9 = none := imm_none hI1 hb
  have hlt : ∀ {α : Type} (A : Nat → α) (v : α) (i : Nat), i < n → up1 A n v i = A i := fun A v i hi => up1_ne _ _ (by omega)
  have hX : Ext fi (va_up fi1 b9 (some cell)) := hx1.tr (Ext.new hfb)
  have hqn : ∀ j, j < 15 → b9 ≠ q j := fun j hj e => by
    obtain ⟨y9, hy⟩ := cl_qs cc j hj
    have := hx _ _ hy
    rw [← e, hb] at this; cases this
  refine cl_grow hC0 (hx.tr (Ext.new hb)) (hI1.both hb) (fun j hj => by rw [va_up_ne _ _ (Ne.symm (hqn j hj))]; exact hfq1 j hj) (rt_grow cT cT.1 (fun _ _ => rfl) (hlt _ _) (hlt _ _) (hlt _ _) hX ⟨hnew, by rw [up1_self]; exact hl.1, by rw [up1_self]; exact hl.2, fun e he => ?_⟩) (fun i hi => ?_) hn (fun i hi => by rw [hlt _ _ _ hi])
  · rw [up1_self] at he
    obtain ⟨i, hi, e2, he2, e3⟩ := hle e he
    obtain ⟨h1, h2⟩ := (cT.2 i hi).2.2.2 e2 he2
    rw [e3]
    exact ⟨by omega, h2.grow rfl (hlt _ _ _ (by omega)) (hlt _ _ _ (by omega)) hX⟩
  · by_cases e : i = n
    · subst e; exact hMK
    · exact mk_grow (cM i (by omega)) (cT.2 i (by omega)).1 (hlt _ _ _ (by omega)) (hlt _ _ _ (by omega)) hX
end GR
