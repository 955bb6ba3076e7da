/-! the program: what else is asked of it, over the one state -/
theorem miss_congr {sg : Nat → Sg} {h h2 : Nat → Int64} (hh : ∀ j, j < 8 → h2 j = h j) {l : List Ent} : ∀ {j : Nat}, j + l.length ≤ 8 → missE sg h2 l j = missE sg h l j := by
  induction l with
  | nil => intro j _; rfl
  | cons e t ih =>
    intro j hj
    rw [List.length_cons] at hj
    rw [missE_c, missE_c, hh j (by omega), ih (by omega)]
theorem idx_congr {sg : Nat → Sg} {h h2 : Nat → Int64} (hh : ∀ j, j < 8 → h2 j = h j) {l : List Ent} : ∀ {j acc : Nat}, j + l.length ≤ 8 → idxE sg h2 l j acc = idxE sg h l j acc := by
  induction l with
  | nil => intro j acc _; rfl
  | cons e t ih =>
    intro j acc hj
    rw [List.length_cons] at hj
    rw [idxE_c, idxE_c, hh j (by omega), ih (by omega)]
theorem fil_congr {sg : Nat → Sg} {h h2 : Nat → Int64} (hh : ∀ j, j < 8 → h2 j = h j) {l : List Ent} {a k : Nat} : ∀ j, j < 8 → filG sg l a k h2 j = filG sg l a k h j := fun j hj => by
  unfold filG
  rw [hh j hj]
theorem sm_congr {sg : Nat → Sg} {l : List Ent} {w : Nat} {v : Int64} {c c2 : Nat → Int32} : ∀ {P : Nat}, (∀ j, j < P → c2 j = c j) → smS sg l w v c2 P = smS sg l w v c P := by
  intro P
  induction P with
  | zero => intro _; rfl
  | succ P ih =>
    intro hc
    show (if vE sg l P w = v then smS sg l w v c2 P + (c2 P).toInt64 else smS sg l w v c2 P) = (if vE sg l P w = v then smS sg l w v c P + (c P).toInt64 else smS sg l w v c P)
    rw [ih (fun j hj => hc j (by omega)), hc P (by omega)]
def missM {α : Type} (o : Option (Nat × Ent)) (f : Nat → Ent → α) (b : α) : α := match o with
  | none => b
  | some q => f q.1 q.2
theorem missM_n {α : Type} (f : Nat → Ent → α) (b : α) : missM none f b = b := rfl
theorem missM_s {α : Type} (q : Nat × Ent) (f : Nat → Ent → α) (b : α) : missM (some q) f b = f q.1 q.2 := rfl
def missS (S : AS) (k : Nat) (e : Ent) : AS := match S with
  | (n, na, sg, E, kd, (t, x, y, z), h, bs, cl) => (n, na, sg, E, kd, (t + 1, nI e.1, nI k, nI e.2.2), h, bs, cl)
def handS (S : AS) (h9 : Nat → Int64) : AS := match S with
  | (n, na, sg, E, kd, m, h, bs, cl) => (n, na, sg, E, kd, m, h9, bs, cl)
def cellS (S : AS) (a j : Nat) (v : Int32) : AS := match S with
  | (n, na, sg, E, kd, m, h, bs, cl) => (n, na, sg, E, kd, m, h, bs, up1 cl a (upd (cl a) j v))
noncomputable def sTold (S : AS) (w v : Int32) : Int32 × AS := match S with
  | (n, na, sg, E, kd, m, h, bs, cl) => ifp (bad w n) (-101, S) ((if v = 0 then kd (ix w) else if v = 1 then nI (E (ix w)).length else if v = 2 then nI (ptK (kd (ix w))) else if v = 3 then nI (E (ix w)).length else -102), S)
noncomputable def sSize (S : AS) (w : Int32) : Int64 × AS := match S with
  | (n, na, sg, E, kd, m, h, bs, cl) => ifp (bad w n) (-1000000101, S) (sat (prodE sg (E (ix w))), S)
noncomputable def sHold (S : AS) (w : Int32) (v : Int64) : Int32 × Int64 × AS := match S with
  | (n, na, sg, E, kd, m, h, bs, cl) => ifp (upC w 7 = 0) (1, 0, S) (0, h (ix w), handS S (vp_updL h (ix w) v))
noncomputable def sHeld (S : AS) (w : Int32) : Int32 × Int64 × AS := match S with
  | (n, na, sg, E, kd, m, h, bs, cl) => ifp (upC w 7 = 0) (1, 0, S) (0, h (ix w), S)
noncomputable def sIndex (S : AS) (w : Int32) : Int32 × Int64 × AS := match S with
  | (n, na, sg, E, kd, m, h, bs, cl) => ifp (bad w n) (0, -1000000101, S) (missM (missE sg h (E (ix w)) 0) (fun k e => (1, 0, missS S k e)) (0, sat (idxE sg h (E (ix w)) 0 0), S))
noncomputable def sHas (S : AS) (w : Int32) : Int32 × AS := match S with
  | (n, na, sg, E, kd, m, h, bs, cl) => ifp (bad w n) (-101, S) (missM (missE sg h (E (ix w)) 0) (fun k e => (0, missS S k e)) (1, S))
noncomputable def sElement (S : AS) (w : Int32) (k : Int64) : Int32 × Int32 × AS := match S with
  | (n, na, sg, E, kd, m, h, bs, cl) => ifp (bad w n) (0, -101, S) (ifp (rchS (prodE sg (E (ix w))) k) (0, nI (E (ix w)).length, handS S (filG sg (E (ix w)) 0 k.toInt.toNat h)) (1, 0, S))
noncomputable def sGo (S : AS) (w : Int32) (k : Int64) : Int32 × Int64 × AS := match S with
  | (n, na, sg, E, kd, m, h, bs, cl) => ifp (bad w n) (0, -1000000101, S) (missM (missE sg h (E (ix w)) 0) (fun k9 e => (1, 0, missS S k9 e)) (ifp (9223372036854775808 ≤ idxE sg h (E (ix w)) 0 0) (0, -1000000103, S) (ifp (9223372036854775808 ≤ (idxE sg h (E (ix w)) 0 0 : Int) + k.toInt) (1, 0, S) (ifp (rchS (prodE sg (E (ix w))) (lN (idxE sg h (E (ix w)) 0 0) + k)) (0, lN (idxE sg h (E (ix w)) 0 0) + k, handS S (filG sg (E (ix w)) 0 (lN (idxE sg h (E (ix w)) 0 0) + k).toInt.toNat h)) (1, 0, S)))))
def sMiss (S : AS) (w : Int32) : Int32 × AS := match S with
  | (n, na, sg, E, kd, (t, x, y, z), h, bs, cl) => (msC w (nI t) x y z, S)
noncomputable def sWithin (S : AS) (w w2 : Int32) : Int32 × AS := match S with
  | (n, na, sg, E, kd, m, h, bs, cl) => ifp (bad w n ∨ bad w2 n) (-101, S) (bI (wiS sg (E (ix w)) (E (ix w2))), S)
noncomputable def sArray (S : AS) (w : Int32) : Int32 × Int32 × AS := match S with
  | (n, na, sg, E, kd, m, h, bs, cl) => ifp (bad w n) (0, -101, S) (ifp (na = 6) (0, -104, S) (ifp (9223372036854775808 ≤ prodE sg (E (ix w))) (1, 0, S) (ifp (400 < prodE sg (E (ix w))) (2, 0, S) (0, nI na, (n, na + 1, sg, E, kd, m, h, up1 bs na (ix w), up1 cl na (fun _ => 0))))))
noncomputable def sPut (S : AS) (w v : Int32) : Int32 × Int32 × AS := match S with
  | (n, na, sg, E, kd, m, h, bs, cl) => ifp (bad w na) (0, -101, S) (missM (missE sg h (E (bs (ix w))) 0) (fun k e => (1, 0, missS S k e)) (0, cl (ix w) (idxE sg h (E (bs (ix w))) 0 0), cellS S (ix w) (idxE sg h (E (bs (ix w))) 0 0) v))
noncomputable def sAt (S : AS) (w : Int32) : Int32 × Int32 × AS := match S with
  | (n, na, sg, E, kd, m, h, bs, cl) => ifp (bad w na) (0, -101, S) (missM (missE sg h (E (bs (ix w))) 0) (fun k e => (1, 0, missS S k e)) (0, cl (ix w) (idxE sg h (E (bs (ix w))) 0 0), S))
noncomputable def sSum (S : AS) (w u : Int32) (v : Int64) : Int64 × AS := match S with
  | (n, na, sg, E, kd, m, h, bs, cl) => ifp (bad w na) (-1000000101, S) (ifp (bad u (E (bs (ix w))).length) (-1000000102, S) (smS sg (E (bs (ix w))) (ix u) v (cl (ix w)) (prodE sg (E (bs (ix w)))), S))
noncomputable def sOver (S : AS) (w : Int32) : Int32 × AS := match S with
  | (n, na, sg, E, kd, m, h, bs, cl) => ifp (bad w na) (-101, S) (nI (bs (ix w)), S)
def sCount (S : AS) (w : Int32) : Int32 × AS := match S with
  | (n, na, sg, E, kd, (t, x, y, z), h, bs, cl) => ((if w = 0 then nI n else if w = 1 then nI na else if w = 2 then nI t else if w = 3 then nI (suN (fun a => prodE sg (E (bs a))) na) else -102), S)
def sClear (S : AS) : Int32 × AS := match S with
  | (n, na, sg, E, kd, (t, x, y, z), h, bs, cl) => (nI n, (0, 0, sg, E, kd, (0, x, y, z), fun _ => 0, bs, cl))
section CC
variable {K : Nat → ClassId} {q : Nat → Nat} {f : St} {n na : Nat} {t x y z : Int32} {g gb : Nat → Option Nat} {h hs : Nat → Int64} {cl : Nat → Nat → Int32}
theorem clc_hand (hC : ClC K q f n na t x y z g gb h hs cl) (h9 : Nat → Int64) : ClC K q (va_up f (q (7)) (some (.inl (K 1, 8, .inr (.inl h9))))) n na t x y z g gb h9 hs cl := by
  obtain ⟨c0, c1, c2, c3, c4, c5, c6, c7, c8, c9, c10⟩ := hC
  have ne : ∀ i j, i < 15 → j < 15 → i ≠ j → q i ≠ q j := fun i j hi hj hne e => hne (c10 i j hi hj e)
  refine ⟨by rw [va_up_ne _ _ (ne 0 (7) (by decide) (by omega) (by omega))]; exact c0, by rw [va_up_ne _ _ (ne 1 (7) (by decide) (by omega) (by omega))]; exact c1, by rw [va_up_ne _ _ (ne 2 (7) (by decide) (by omega) (by omega))]; exact c2, by rw [va_up_ne _ _ (ne 3 (7) (by decide) (by omega) (by omega))]; exact c3, by rw [va_up_ne _ _ (ne 4 (7) (by decide) (by omega) (by omega))]; exact c4, by rw [va_up_ne _ _ (ne 5 (7) (by decide) (by omega) (by omega))]; exact c5, by rw [va_up_ne _ _ (ne 6 (7) (by decide) (by omega) (by omega))]; exact c6, by rw [va_up_self], by rw [va_up_ne _ _ (ne 8 (7) (by decide) (by omega) (by omega))]; exact c8, fun i hi => by rw [va_up_ne _ _ (ne (9 + i) 7 (by omega) (by decide) (by omega))]; exact c9 i hi, c10⟩
theorem clc_scr (hC : ClC K q f n na t x y z g gb h hs cl) (h9 : Nat → Int64) : ClC K q (va_up f (q (8)) (some (.inl (K 1, 8, .inr (.inl h9))))) n na t x y z g gb h h9 cl := by
  obtain ⟨c0, c1, c2, c3, c4, c5, c6, c7, c8, c9, c10⟩ := hC
  have ne : ∀ i j, i < 15 → j < 15 → i ≠ j → q i ≠ q j := fun i j hi hj hne e => hne (c10 i j hi hj e)
  refine ⟨by rw [va_up_ne _ _ (ne 0 (8) (by decide) (by omega) (by omega))]; exact c0, by rw [va_up_ne _ _ (ne 1 (8) (by decide) (by omega) (by omega))]; exact c1, by rw [va_up_ne _ _ (ne 2 (8) (by decide) (by omega) (by omega))]; exact c2, by rw [va_up_ne _ _ (ne 3 (8) (by decide) (by omega) (by omega))]; exact c3, by rw [va_up_ne _ _ (ne 4 (8) (by decide) (by omega) (by omega))]; exact c4, by rw [va_up_ne _ _ (ne 5 (8) (by decide) (by omega) (by omega))]; exact c5, by rw [va_up_ne _ _ (ne 6 (8) (by decide) (by omega) (by omega))]; exact c6, by rw [va_up_ne _ _ (ne 7 (8) (by decide) (by omega) (by omega))]; exact c7, by rw [va_up_self], fun i hi => by rw [va_up_ne _ _ (ne (9 + i) 8 (by omega) (by decide) (by omega))]; exact c9 i hi, c10⟩
theorem clc_miss (hC : ClC K q f n na t x y z g gb h hs cl) (t9 x9 y9 z9 : Int32) : ClC K q (va_up f (q (3)) (some (.inr (3, [.int t9, .int x9, .int y9, .int z9])))) n na t9 x9 y9 z9 g gb h hs cl := by
  obtain ⟨c0, c1, c2, c3, c4, c5, c6, c7, c8, c9, c10⟩ := hC
  have ne : ∀ i j, i < 15 → j < 15 → i ≠ j → q i ≠ q j := fun i j hi hj hne e => hne (c10 i j hi hj e)
  refine ⟨by rw [va_up_ne _ _ (ne 0 (3) (by decide) (by omega) (by omega))]; exact c0, by rw [va_up_ne _ _ (ne 1 (3) (by decide) (by omega) (by omega))]; exact c1, by rw [va_up_ne _ _ (ne 2 (3) (by decide) (by omega) (by omega))]; exact c2, by rw [va_up_self], by rw [va_up_ne _ _ (ne 4 (3) (by decide) (by omega) (by omega))]; exact c4, by rw [va_up_ne _ _ (ne 5 (3) (by decide) (by omega) (by omega))]; exact c5, by rw [va_up_ne _ _ (ne 6 (3) (by decide) (by omega) (by omega))]; exact c6, by rw [va_up_ne _ _ (ne 7 (3) (by decide) (by omega) (by omega))]; exact c7, by rw [va_up_ne _ _ (ne 8 (3) (by decide) (by omega) (by omega))]; exact c8, fun i hi => by rw [va_up_ne _ _ (ne (9 + i) 3 (by omega) (by decide) (by omega))]; exact c9 i hi, c10⟩
theorem clc_obj (hC : ClC K q f n na t x y z g gb h hs cl) (n9 a8 : Nat) : ClC K q (va_up f (q (0)) (some (.inr (6, [.ref (q 1), .ref (q 2), .ref (q 3), .ref (q 4), .ref (q 5), .ref (q 6), .int (nI n9), .int (nI a8)])))) n9 a8 t x y z g gb h hs cl := by
  obtain ⟨c0, c1, c2, c3, c4, c5, c6, c7, c8, c9, c10⟩ := hC
  have ne : ∀ i j, i < 15 → j < 15 → i ≠ j → q i ≠ q j := fun i j hi hj hne e => hne (c10 i j hi hj e)
  refine ⟨by rw [va_up_self], by rw [va_up_ne _ _ (ne 1 (0) (by decide) (by omega) (by omega))]; exact c1, by rw [va_up_ne _ _ (ne 2 (0) (by decide) (by omega) (by omega))]; exact c2, by rw [va_up_ne _ _ (ne 3 (0) (by decide) (by omega) (by omega))]; exact c3, by rw [va_up_ne _ _ (ne 4 (0) (by decide) (by omega) (by omega))]; exact c4, by rw [va_up_ne _ _ (ne 5 (0) (by decide) (by omega) (by omega))]; exact c5, by rw [va_up_ne _ _ (ne 6 (0) (by decide) (by omega) (by omega))]; exact c6, by rw [va_up_ne _ _ (ne 7 (0) (by decide) (by omega) (by omega))]; exact c7, by rw [va_up_ne _ _ (ne 8 (0) (by decide) (by omega) (by omega))]; exact c8, fun i hi => by rw [va_up_ne _ _ (ne (9 + i) 0 (by omega) (by decide) (by omega))]; exact c9 i hi, c10⟩
theorem clc_bases (hC : ClC K q f n na t x y z g gb h hs cl) (g9 : Nat → Option Nat) : ClC K q (va_up f (q (5)) (some (.inl (K 3, 6, .inr (.inr (.inr (.inr g9))))))) n na t x y z g g9 h hs cl := by
  obtain ⟨c0, c1, c2, c3, c4, c5, c6, c7, c8, c9, c10⟩ := hC
  have ne : ∀ i j, i < 15 → j < 15 → i ≠ j → q i ≠ q j := fun i j hi hj hne e => hne (c10 i j hi hj e)
  refine ⟨by rw [va_up_ne _ _ (ne 0 (5) (by decide) (by omega) (by omega))]; exact c0, by rw [va_up_ne _ _ (ne 1 (5) (by decide) (by omega) (by omega))]; exact c1, by rw [va_up_ne _ _ (ne 2 (5) (by decide) (by omega) (by omega))]; exact c2, by rw [va_up_ne _ _ (ne 3 (5) (by decide) (by omega) (by omega))]; exact c3, by rw [va_up_ne _ _ (ne 4 (5) (by decide) (by omega) (by omega))]; exact c4, by rw [va_up_self], by rw [va_up_ne _ _ (ne 6 (5) (by decide) (by omega) (by omega))]; exact c6, by rw [va_up_ne _ _ (ne 7 (5) (by decide) (by omega) (by omega))]; exact c7, by rw [va_up_ne _ _ (ne 8 (5) (by decide) (by omega) (by omega))]; exact c8, fun i hi => by rw [va_up_ne _ _ (ne (9 + i) 5 (by omega) (by decide) (by omega))]; exact c9 i hi, c10⟩
theorem clc_cell (hC : ClC K q f n na t x y z g gb h hs cl) (a9 : Nat) (ha9 : a9 < 6) (v8 : Nat → Int32) : ClC K q (va_up f (q (9 + a9)) (some (.inl (K 0, 400, .inl v8)))) n na t x y z g gb h hs (up1 cl a9 v8) := by
  obtain ⟨c0, c1, c2, c3, c4, c5, c6, c7, c8, c9, c10⟩ := hC
  have ne : ∀ i j, i < 15 → j < 15 → i ≠ j → q i ≠ q j := fun i j hi hj hne e => hne (c10 i j hi hj e)
  refine ⟨by rw [va_up_ne _ _ (ne 0 (9 + a9) (by decide) (by omega) (by omega))]; exact c0, by rw [va_up_ne _ _ (ne 1 (9 + a9) (by decide) (by omega) (by omega))]; exact c1, by rw [va_up_ne _ _ (ne 2 (9 + a9) (by decide) (by omega) (by omega))]; exact c2, by rw [va_up_ne _ _ (ne 3 (9 + a9) (by decide) (by omega) (by omega))]; exact c3, by rw [va_up_ne _ _ (ne 4 (9 + a9) (by decide) (by omega) (by omega))]; exact c4, by rw [va_up_ne _ _ (ne 5 (9 + a9) (by decide) (by omega) (by omega))]; exact c5, by rw [va_up_ne _ _ (ne 6 (9 + a9) (by decide) (by omega) (by omega))]; exact c6, by rw [va_up_ne _ _ (ne 7 (9 + a9) (by decide) (by omega) (by omega))]; exact c7, by rw [va_up_ne _ _ (ne 8 (9 + a9) (by decide) (by omega) (by omega))]; exact c8, fun i hi => ?_, c10⟩
  by_cases e : i = a9
  · subst e; rw [va_up_self, up1_self]
  · rw [va_up_ne _ _ (ne (9 + i) (9 + a9) (by omega) (by omega) (by omega)), up1_ne _ _ e]; exact c9 i hi
end CC
theorem CL_miss {K : Nat → ClassId} {q : Nat → Nat} {f : St} {n na t : Nat} {sg : Nat → Sg} {E : Nat → List Ent} {kd : Nat → Int32} {x y z : Int32} {h : Nat → Int64} {bs : Nat → Nat} {cl : Nat → Nat → Int32} (hC : CL K q f (n, na, sg, E, kd, (t, x, y, z), h, bs, cl)) (m9 : Nat × Ent) : CL K q (plF f (q 3) (nI t) 0 (some m9)) (missS (n, na, sg, E, kd, (t, x, y, z), h, bs, cl) m9.1 m9.2) ∧ Out q f (plF f (q 3) (nI t) 0 (some m9)) := by
  obtain ⟨hh, cl2, ehh, ecl, fi, ra, g, gb, hs, cc, cI, cfq, rest⟩ := hC
  refine ⟨⟨hh, cl2, ehh, ecl, fi, ra, g, gb, hs, ?_, cI.up (cfq 3 (by decide)), cfq, rest⟩, Out.up (by decide)⟩
  have h9 := clc_miss cc (nI (t + 1)) (nI m9.2.1) (nI m9.1) (nI m9.2.2.2)
  show ClC K q (va_up f (q 3) (some (.inr (3, [.int (nI t + 1), .int (nI m9.2.1), .int (nI m9.1), .int (0 + nI m9.2.2.2)])))) _ _ _ _ _ _ _ _ _ _ _
  rw [nI_1, Int32.zero_add]
  exact h9
theorem CL_hand {K : Nat → ClassId} {q : Nat → Nat} {f : St} {S : AS} (hC : CL K q f S) (h8 h9 : Nat → Int64) (hh : ∀ j, j < 8 → h8 j = h9 j) : CL K q (va_up f (q 7) (some (.inl (K 1, 8, .inr (.inl h8))))) (handS S h9) ∧ Out q f (va_up f (q 7) (some (.inl (K 1, 8, .inr (.inl h8))))) := by
  obtain ⟨n, na, sg, E, kd, ⟨t, x, y, z⟩, h, bs, cl⟩ := S
  obtain ⟨h2, cl2, ehh, ecl, fi, ra, g, gb, hs, cc, cI, cfq, rest⟩ := hC
  exact ⟨⟨h8, cl2, hh, ecl, fi, ra, g, gb, hs, clc_hand cc h8, cI.up (cfq 7 (by decide)), cfq, rest⟩, Out.up (by decide)⟩
theorem w_out {v : Int32} (v0 : ¬ v = 0) (v1 : ¬ v = 1) (v2 : ¬ v = 2) (v3 : ¬ v = 3) : v.toInt < 0 ∨ 3 < v.toInt := by
  have h0 : v.toInt ≠ 0 := fun h => v0 (Int32.toInt_inj.mp h)
  have h1 : v.toInt ≠ 1 := fun h => v1 (Int32.toInt_inj.mp h)
  have h2 : v.toInt ≠ 2 := fun h => v2 (Int32.toInt_inj.mp h)
  have h3 : v.toInt ≠ 3 := fun h => v3 (Int32.toInt_inj.mp h)
  omega
set_option maxHeartbeats 4000000 in
set_option maxRecDepth 100000 in
theorem k_told (l : Launch) (D : va_G) (B : Nat) (K : Nat → ClassId) (f : St) (q : Nat → Nat) (S : AS) (hC : CL K q f S) (w v : Int32) : Kc l D B K yX8_told cX8_told 4 ((some .int)) 50 0 0 [.ref (q 0), .int w, .int v] f (Qi_ D B (PC K q f (sTold S w v))) := by
  obtain ⟨n, na, sg, E, kd, ⟨t, x, y, z⟩, h, bs, cl⟩ := S
  have hCL := hC
  obtain ⟨hh, cl2, ehh, ecl, fi, ra, g, gb, hs, hC⟩ := hC
  have hC0 := hC
  obtain ⟨⟨h0, h1, h2, h3, h4, h5, h6, h7, h8, hrow, hq⟩, hI, hfq, hT, hn40, hg, hna, hbs, hMKs⟩ := hC
  have hqs := cl_qs hC0.1
  by_cases hx : bad w n
  · have e : sTold (n, na, sg, E, kd, (t, x, y, z), h, bs, cl) w v = _ := ifp_t hx _ _
    rw [e]
    exact ki (c_told_bad l D B K f q n na w h0 hn40 hx v) (fun a9 f9 h9 => by obtain ⟨e1, e2⟩ := h9; subst e1; subst e2; exact ⟨rfl, hCL, Out.rf⟩)
  · obtain ⟨i, hi, rfl, hix⟩ := ok_of (by omega) hx
    have e0 : sTold (n, na, sg, E, kd, (t, x, y, z), h, bs, cl) (nI i) v = _ := ifp_f hx _ _
    rw [hix] at e0
    rw [e0]
    have hMK := hMKs i hi
    by_cases v0 : v = 0
    · subst v0
      exact ki (c_told_0 l D B K f q n na g fi sg E ra kd i h0 h4 hn40 hT hI hg hi) (fun a9 f9 h9 => by obtain ⟨e1, e2⟩ := h9; subst e1; subst e2; exact ⟨rfl, hCL, Out.rf⟩)
    by_cases v1 : v = 1
    · subst v1
      exact ki (c_told_1 l D B K f q n na g fi sg E ra kd i h0 h4 hn40 hT hI hg hi) (fun a9 f9 h9 => by obtain ⟨e1, e2⟩ := h9; subst e1; subst e2; exact ⟨rfl, hCL, Out.rf⟩)
    by_cases v2 : v = 2
    · subst v2
      exact ki (c_told_2 l D B K f q n na g fi sg E ra kd i h0 h4 hn40 hT hI hg hi hMK) (fun a9 f9 h9 => by obtain ⟨e1, e2⟩ := h9; subst e1; subst e2; exact ⟨rfl, hCL, Out.rf⟩)
    by_cases v3 : v = 3
    · subst v3
      exact ki (c_told_3 l D B K f q n na g fi sg E ra kd i h0 h4 hn40 hT hI hg hi) (fun a9 f9 h9 => by obtain ⟨e1, e2⟩ := h9; subst e1; subst e2; exact ⟨rfl, hCL, Out.rf⟩)
    rw [if_neg v0, if_neg v1, if_neg v2, if_neg v3]
    exact ki (c_told_out l D B K f q n na g fi sg E ra kd i h0 h4 hn40 hT hI hg hi v (w_out v0 v1 v2 v3)) (fun a9 f9 h9 => by obtain ⟨e1, e2⟩ := h9; subst e1; subst e2; exact ⟨rfl, hCL, Out.rf⟩)

set_option maxHeartbeats 4000000 in
set_option maxRecDepth 100000 in
theorem k_size (l : Launch) (D : va_G) (B : Nat) (K : Nat → ClassId) (f : St) (q : Nat → Nat) (S : AS) (hC : CL K q f S) (w : Int32) : Kc l D B K yX8_size cX8_size 3 ((some .long)) 50 0 0 [.ref (q 0), .int w] f (Ql_ D B (PC K q f (sSize S w))) := by
  obtain ⟨n, na, sg, E, kd, ⟨t, x, y, z⟩, h, bs, cl⟩ := S
  have hCL := hC
  obtain ⟨hh, cl2, ehh, ecl, fi, ra, g, gb, hs, hC⟩ := hC
  have hC0 := hC
  obtain ⟨⟨h0, h1, h2, h3, h4, h5, h6, h7, h8, hrow, hq⟩, hI, hfq, hT, hn40, hg, hna, hbs, hMKs⟩ := hC
  have hqs := cl_qs hC0.1
  by_cases hx : bad w n
  · have e : sSize (n, na, sg, E, kd, (t, x, y, z), h, bs, cl) w = _ := ifp_t hx _ _
    rw [e]
    exact kl (c_size_bad l D B K f q n na w h0 hn40 hx) (fun a9 f9 h9 => by obtain ⟨e1, e2⟩ := h9; subst e1; subst e2; exact ⟨rfl, hCL, Out.rf⟩)
  · obtain ⟨i, hi, rfl, hix⟩ := ok_of (by omega) hx
    have e0 : sSize (n, na, sg, E, kd, (t, x, y, z), h, bs, cl) (nI i) = _ := ifp_f hx _ _
    rw [hix] at e0
    rw [e0]
    exact kl (c_size_ok l D B K f q n na g fi sg E ra kd i h0 h4 hn40 hT hI hg hi) (fun a9 f9 h9 => by obtain ⟨e1, e2⟩ := h9; subst e1; subst e2; exact ⟨rfl, hCL, Out.rf⟩)

set_option maxHeartbeats 4000000 in
set_option maxRecDepth 100000 in
theorem k_has (l : Launch) (D : va_G) (B : Nat) (K : Nat → ClassId) (f : St) (q : Nat → Nat) (S : AS) (hC : CL K q f S) (w : Int32) : Kc l D B K yX8_has cX8_has 3 ((some .int)) 50 0 0 [.ref (q 0), .int w] f (Qi_ D B (PC K q f (sHas S w))) := by
  obtain ⟨n, na, sg, E, kd, ⟨t, x, y, z⟩, h, bs, cl⟩ := S
  have hCL := hC
  obtain ⟨hh, cl2, ehh, ecl, fi, ra, g, gb, hs, hC⟩ := hC
  have hC0 := hC
  obtain ⟨⟨h0, h1, h2, h3, h4, h5, h6, h7, h8, hrow, hq⟩, hI, hfq, hT, hn40, hg, hna, hbs, hMKs⟩ := hC
  have hqs := cl_qs hC0.1
  by_cases hx : bad w n
  · have e : sHas (n, na, sg, E, kd, (t, x, y, z), h, bs, cl) w = _ := ifp_t hx _ _
    rw [e]
    exact ki (c_has_bad l D B K f q n na w h0 hn40 hx) (fun a9 f9 h9 => by obtain ⟨e1, e2⟩ := h9; subst e1; subst e2; exact ⟨rfl, hCL, Out.rf⟩)
  · obtain ⟨i, hi, rfl, hix⟩ := ok_of (by omega) hx
    have e0 : sHas (n, na, sg, E, kd, (t, x, y, z), h, bs, cl) (nI i) = _ := ifp_f hx _ _
    rw [hix] at e0
    cases hm : missE sg h (E i) 0 with
    | none =>
      rw [hm, missM_n] at e0
      rw [e0]
      rw [← miss_congr ehh (by have h9 := (hT.2 i hi).2.1; omega)] at hm
      exact ki (c_has_yes l D B K f q n na g fi sg E ra kd i (nI t) x y z hh h0 h4 hn40 hT hI hg h1 h7 h3 hi hm) (fun a9 f9 h9 => by obtain ⟨e1, e2⟩ := h9; subst e1; subst e2; exact ⟨rfl, hCL, Out.rf⟩)
    | some m9 =>
      rw [hm, missM_s] at e0
      rw [e0]
      rw [← miss_congr ehh (by have h9 := (hT.2 i hi).2.1; omega)] at hm
      exact ki (c_has_no l D B K f q n na g fi sg E ra kd i (nI t) x y z hh h0 h4 hn40 hT hI hg h1 h7 h3 hi m9 hm) (fun a9 f9 h9 => by obtain ⟨e1, e2⟩ := h9; subst e1; subst e2; exact ⟨rfl, (CL_miss hCL m9).1, (CL_miss hCL m9).2⟩)

set_option maxHeartbeats 4000000 in
set_option maxRecDepth 100000 in
theorem k_miss (l : Launch) (D : va_G) (B : Nat) (K : Nat → ClassId) (f : St) (q : Nat → Nat) (S : AS) (hC : CL K q f S) (w : Int32) : Kc l D B K yX8_miss cX8_miss 2 ((some .int)) 50 0 0 [.ref (q 0), .int w] f (Qi_ D B (PC K q f (sMiss S w))) := by
  obtain ⟨n, na, sg, E, kd, ⟨t, x, y, z⟩, h, bs, cl⟩ := S
  have hCL := hC
  obtain ⟨hh, cl2, ehh, ecl, fi, ra, g, gb, hs, hC⟩ := hC
  have hC0 := hC
  obtain ⟨⟨h0, h1, h2, h3, h4, h5, h6, h7, h8, hrow, hq⟩, hI, hfq, hT, hn40, hg, hna, hbs, hMKs⟩ := hC
  have hqs := cl_qs hC0.1
  exact ki (c_miss l D B K f q n na w (nI t) x y z h0 h3) (fun a9 f9 h9 => by obtain ⟨e1, e2⟩ := h9; subst e1; subst e2; exact ⟨rfl, hCL, Out.rf⟩)

set_option maxHeartbeats 4000000 in
set_option maxRecDepth 100000 in
theorem k_within (l : Launch) (D : va_G) (B : Nat) (K : Nat → ClassId) (f : St) (q : Nat → Nat) (S : AS) (hC : CL K q f S) (w w2 : Int32) : Kc l D B K yX8_within cX8_within 5 ((some .int)) 50 0 0 [.ref (q 0), .int w, .int w2] f (Qi_ D B (PC K q f (sWithin S w w2))) := by
  obtain ⟨n, na, sg, E, kd, ⟨t, x, y, z⟩, h, bs, cl⟩ := S
  have hCL := hC
  obtain ⟨hh, cl2, ehh, ecl, fi, ra, g, gb, hs, hC⟩ := hC
  have hC0 := hC
  obtain ⟨⟨h0, h1, h2, h3, h4, h5, h6, h7, h8, hrow, hq⟩, hI, hfq, hT, hn40, hg, hna, hbs, hMKs⟩ := hC
  have hqs := cl_qs hC0.1
  by_cases hx : bad w n ∨ bad w2 n
  · have e : sWithin (n, na, sg, E, kd, (t, x, y, z), h, bs, cl) w w2 = _ := ifp_t hx _ _
    rw [e]
    by_cases hg0 : bad w n
    · by_cases hg1 : bad w2 n
      · exact ki (c_within_bad00 l D B K f q n na g fi sg E ra kd w w2 h0 h4 hn40 hT hI hg hg0 hg1) (fun a9 f9 h9 => by obtain ⟨e1, e2⟩ := h9; subst e1; subst e2; exact ⟨rfl, hCL, Out.rf⟩)
      · obtain ⟨j, hj, rfl, _⟩ := ok_of (by omega) hg1
        exact ki (c_within_bad01 l D B K f q n na g fi sg E ra kd w j h0 h4 hn40 hT hI hg hg0 hj) (fun a9 f9 h9 => by obtain ⟨e1, e2⟩ := h9; subst e1; subst e2; exact ⟨rfl, hCL, Out.rf⟩)
    · have hg0b := hg0
      obtain ⟨i, hi, rfl, _⟩ := ok_of (by omega) hg0
      by_cases hg1 : bad w2 n
      · exact ki (c_within_bad10 l D B K f q n na g fi sg E ra kd i w2 h0 h4 hn40 hT hI hg hi hg1) (fun a9 f9 h9 => by obtain ⟨e1, e2⟩ := h9; subst e1; subst e2; exact ⟨rfl, hCL, Out.rf⟩)
      · exact absurd hx (fun h9 => h9.elim hg0 hg1)
  · obtain ⟨i, hi, hw0, hix⟩ := ok_of (n := n) (by omega) (fun h9 => hx (Or.inl h9))
    obtain ⟨j, hj, hw1, hix2⟩ := ok_of (n := n) (by omega) (fun h9 => hx (Or.inr h9))
    have e0 : sWithin (n, na, sg, E, kd, (t, x, y, z), h, bs, cl) w w2 = _ := ifp_f hx _ _
    rw [hix, hix2] at e0
    rw [e0]
    subst hw0
    subst hw1
    exact ki (c_within_ok l D B K f q n na g fi sg E ra kd i j h0 h4 hn40 hT hI hg hi hj) (fun a9 f9 h9 => by obtain ⟨e1, e2⟩ := h9; subst e1; subst e2; exact ⟨rfl, hCL, Out.rf⟩)

set_option maxHeartbeats 4000000 in
set_option maxRecDepth 100000 in
theorem k_over (l : Launch) (D : va_G) (B : Nat) (K : Nat → ClassId) (f : St) (q : Nat → Nat) (S : AS) (hC : CL K q f S) (w : Int32) : Kc l D B K yX8_over cX8_over 3 ((some .int)) 50 0 0 [.ref (q 0), .int w] f (Qi_ D B (PC K q f (sOver S w))) := by
  obtain ⟨n, na, sg, E, kd, ⟨t, x, y, z⟩, h, bs, cl⟩ := S
  have hCL := hC
  obtain ⟨hh, cl2, ehh, ecl, fi, ra, g, gb, hs, hC⟩ := hC
  have hC0 := hC
  obtain ⟨⟨h0, h1, h2, h3, h4, h5, h6, h7, h8, hrow, hq⟩, hI, hfq, hT, hn40, hg, hna, hbs, hMKs⟩ := hC
  have hqs := cl_qs hC0.1
  by_cases hx : bad w na
  · have e : sOver (n, na, sg, E, kd, (t, x, y, z), h, bs, cl) w = _ := ifp_t hx _ _
    rw [e]
    exact ki (c_over_bad l D B K f q n na w h0 hna hx) (fun a9 f9 h9 => by obtain ⟨e1, e2⟩ := h9; subst e1; subst e2; exact ⟨rfl, hCL, Out.rf⟩)
  · obtain ⟨a9, ha9, rfl, hix⟩ := ok_of (by omega) hx
    obtain ⟨hgb, hi, hz⟩ := hbs a9 ha9
    have e0 : sOver (n, na, sg, E, kd, (t, x, y, z), h, bs, cl) (nI a9) = _ := ifp_f hx _ _
    rw [hix] at e0
    rw [e0]
    exact ki (c_over_ok l D B K f q n na gb fi sg E ra kd a9 (bs a9) h0 h5 hna hn40 hT hI ha9 hi hgb) (fun a9 f9 h9 => by obtain ⟨e1, e2⟩ := h9; subst e1; subst e2; exact ⟨rfl, hCL, Out.rf⟩)

set_option maxHeartbeats 4000000 in
set_option maxRecDepth 100000 in
theorem k_count (l : Launch) (D : va_G) (B : Nat) (K : Nat → ClassId) (f : St) (q : Nat → Nat) (S : AS) (hC : CL K q f S) (w : Int32) : Kc l D B K yX8_count cX8_count 2 ((some .int)) 50 0 0 [.ref (q 0), .int w] f (Qi_ D B (PC K q f (sCount S w))) := by
  obtain ⟨n, na, sg, E, kd, ⟨t, x, y, z⟩, h, bs, cl⟩ := S
  have hCL := hC
  obtain ⟨hh, cl2, ehh, ecl, fi, ra, g, gb, hs, hC⟩ := hC
  have hC0 := hC
  obtain ⟨⟨h0, h1, h2, h3, h4, h5, h6, h7, h8, hrow, hq⟩, hI, hfq, hT, hn40, hg, hna, hbs, hMKs⟩ := hC
  have hqs := cl_qs hC0.1
  by_cases v0 : w = 0
  · subst v0
    exact ki (c_count_0 l D B K f q n na h0) (fun a9 f9 h9 => by obtain ⟨e1, e2⟩ := h9; subst e1; subst e2; exact ⟨rfl, hCL, Out.rf⟩)
  by_cases v1 : w = 1
  · subst v1
    exact ki (c_count_1 l D B K f q n na h0) (fun a9 f9 h9 => by obtain ⟨e1, e2⟩ := h9; subst e1; subst e2; exact ⟨rfl, hCL, Out.rf⟩)
  by_cases v2 : w = 2
  · subst v2
    exact ki (c_count_2 l D B K f q n na (nI t) x y z h0 h3) (fun a9 f9 h9 => by obtain ⟨e1, e2⟩ := h9; subst e1; subst e2; exact ⟨rfl, hCL, Out.rf⟩)
  by_cases v3 : w = 3
  · subst v3
    exact ki (c_count_3 l D B K f q n na gb bs fi sg E ra kd h0 h5 hna hT hI hbs) (fun a9 f9 h9 => by obtain ⟨e1, e2⟩ := h9; subst e1; subst e2; exact ⟨rfl, hCL, Out.rf⟩)
  have e : sCount (n, na, sg, E, kd, (t, x, y, z), h, bs, cl) w = (-102, (n, na, sg, E, kd, (t, x, y, z), h, bs, cl)) := by show ((if w = 0 then _ else if w = 1 then _ else if w = 2 then _ else if w = 3 then _ else _), _) = _; rw [if_neg v0, if_neg v1, if_neg v2, if_neg v3]
  rw [e]
  exact ki (c_count_out l D B K f q n na h0 w (w_out v0 v1 v2 v3)) (fun a9 f9 h9 => by obtain ⟨e1, e2⟩ := h9; subst e1; subst e2; exact ⟨rfl, hCL, Out.rf⟩)

set_option maxHeartbeats 4000000 in
set_option maxRecDepth 100000 in
theorem k_clear (l : Launch) (D : va_G) (B : Nat) (K : Nat → ClassId) (f : St) (q : Nat → Nat) (S : AS) (hC : CL K q f S)  : Kc l D B K yX8_clear cX8_clear 2 ((some .int)) 50 0 0 [.ref (q 0)] f (Qi_ D B (PC K q f (sClear S))) := by
  obtain ⟨n, na, sg, E, kd, ⟨t, x, y, z⟩, h, bs, cl⟩ := S
  have hCL := hC
  obtain ⟨hh, cl2, ehh, ecl, fi, ra, g, gb, hs, hC⟩ := hC
  have hC0 := hC
  obtain ⟨⟨h0, h1, h2, h3, h4, h5, h6, h7, h8, hrow, hq⟩, hI, hfq, hT, hn40, hg, hna, hbs, hMKs⟩ := hC
  have hqs := cl_qs hC0.1
  have e : sClear (n, na, sg, E, kd, (t, x, y, z), h, bs, cl) = (nI n, (0, 0, sg, E, kd, (0, x, y, z), fun _ => 0, bs, cl)) := rfl
  rw [e]
  refine ki (c_clear l D B K f q n na (nI t) x y z hh h0 h1 h7 h3 hq) (fun a9 f9 h9 => ?_)
  obtain ⟨e1, g9, hg9, e2⟩ := h9
  subst e1; subst e2
  refine ⟨rfl, ⟨g9, cl2, fun j hj => hg9 j hj, fun a j ha => by omega, fi, ra, g, gb, hs, clc_miss (clc_hand (clc_obj hC0.1 0 0) g9) _ _ _ _, ((hI.up (hfq 0 (by decide))).up (hfq 7 (by decide))).up (hfq 3 (by decide)), hfq, ⟨hT.1, fun i hi => by omega⟩, by omega, fun i hi => by omega, by omega, fun a ha => by omega, fun i hi => by omega⟩, ((Out.up (by decide)).tr (Out.up (by decide))).tr (Out.up (by decide))⟩

set_option maxHeartbeats 4000000 in
set_option maxRecDepth 100000 in
theorem k_sum (l : Launch) (D : va_G) (B : Nat) (K : Nat → ClassId) (f : St) (q : Nat → Nat) (S : AS) (hC : CL K q f S) (w u : Int32) (v : Int64) : Kc l D B K yX8_sum cX8_sum 9 ((some .long)) 50 0 0 [.ref (q 0), .int w, .int u, .long v] f (Ql_ D B (PC K q f (sSum S w u v))) := by
  obtain ⟨n, na, sg, E, kd, ⟨t, x, y, z⟩, h, bs, cl⟩ := S
  have hCL := hC
  obtain ⟨hh, cl2, ehh, ecl, fi, ra, g, gb, hs, hC⟩ := hC
  have hC0 := hC
  obtain ⟨⟨h0, h1, h2, h3, h4, h5, h6, h7, h8, hrow, hq⟩, hI, hfq, hT, hn40, hg, hna, hbs, hMKs⟩ := hC
  have hqs := cl_qs hC0.1
  by_cases hx : bad w na
  · have e : sSum (n, na, sg, E, kd, (t, x, y, z), h, bs, cl) w u v = _ := ifp_t hx _ _
    rw [e]
    exact kl (c_sum_bad l D B K f q n na w h0 hna hx u v) (fun a9 f9 h9 => by obtain ⟨e1, e2⟩ := h9; subst e1; subst e2; exact ⟨rfl, hCL, Out.rf⟩)
  · obtain ⟨a9, ha9, rfl, hix⟩ := ok_of (by omega) hx
    obtain ⟨hgb, hi, hz⟩ := hbs a9 ha9
    have e0 : sSum (n, na, sg, E, kd, (t, x, y, z), h, bs, cl) (nI a9) u v = _ := ifp_f hx _ _
    rw [hix] at e0
    rw [e0]
    have hl := (hT.2 _ hi).2
    by_cases hu : bad u (E (bs a9)).length
    · rw [ifp_t hu]
      exact kl (c_sum_out l D B K f q n na gb fi sg E ra kd a9 (bs a9) u v h0 h5 hna hn40 hT hI ha9 hi hgb (upC_no hl.2.1 hl.1 hu)) (fun a9 f9 h9 => by obtain ⟨e1, e2⟩ := h9; subst e1; subst e2; exact ⟨rfl, hCL, Out.rf⟩)
    · rw [ifp_f hu]
      obtain ⟨w9, hw, rfl, hiu⟩ := ok_of (by omega) hu
      rw [hiu]
      refine kl (c_sum_ok l D B K f q n na gb fi sg E ra kd a9 (bs a9) h0 h5 hna hn40 hT hI ha9 hi hgb hs cl2 hq hfq h2 h8 h6 hrow w9 v hw hz) (fun a9 f9 h9 => ?_)
      obtain ⟨e1, gs, e2⟩ := h9
      subst e1; subst e2
      exact ⟨sm_congr (fun j hj => ecl _ _ ha9 (by omega)), ⟨hh, cl2, ehh, ecl, fi, ra, g, gb, gs, clc_scr hC0.1 gs, hI.up (hfq 8 (by decide)), hC0.2.2⟩, Out.up (by decide)⟩

